section
theorem goodIn_r {big : List Cond} (ws : List Cond) (ps : List Nat) (hp : ws = ps.filterMap (fun i => big[i]?)) (h : ws.all goodWord = true) : GoodIn big ws := by
  intro w hw
  have h1 := List.all_eq_true.mp h w hw
  rw [hp] at hw
  obtain ⟨i, -, hi⟩ := List.mem_filterMap.mp hw
  have hm : w ∈ big := by first | exact List.mem_of_getElem? hi | exact List.getElem?_mem hi
  exact ⟨hm, good_of_word h1⟩
theorem goodIn_app {big a b : List Cond} (ha : GoodIn big a) (hb : GoodIn big b) : GoodIn big (a ++ b) := fun w h => (List.mem_append.mp h).elim (ha w) (hb w)
theorem goodIn_ca {big a b : List Cond} {c : Cond} (ha : GoodIn big (c :: a)) (hb : GoodIn big b) : GoodIn big (c :: (a ++ b)) := fun w h => (List.mem_cons.mp h).elim (fun e => ha w (List.mem_cons.mpr (Or.inl e))) (fun h => (List.mem_append.mp h).elim (fun h => ha w (List.mem_cons.mpr (Or.inr h))) (hb w))
theorem goodIn_sub {big ws : List Cond} (hm : ∀ w ∈ ws, w ∈ big) (h : ws.all goodWord = true) : GoodIn big ws := fun w hw => ⟨hm w hw, good_of_word (List.all_eq_true.mp h w hw)⟩

def RX0 : String := "TreeHashes$Bytes"
def TX0 : u_T := fun k => match k with
  | 0 => ("TreeHashes$Bytes", "row", "[B", true)
  | _ => ("TreeHashes$Bytes", "count", "I", false)
def tyX0 : Nat → FieldType := fun k => match k with
  | 0 => .array .byte
  | _ => .int
abbrev wsX00 : List Cond := u_ws RX0 TX0 2
theorem nmX0 : ∀ a, a < 2 → ∀ b, b < 2 → a ≠ b → (TX0 a).2.1 ≠ (TX0 b).2.1 := by decide +kernel
theorem tyX0_ok : ∀ k, k < 2 → parseFieldDescriptor (TX0 k).2.2.1 = some (tyX0 k) := by decide +kernel
abbrev cX0_init : ByteArray := prog_2_method_1_code
def yX0_init : MethodName := ⟨RX0, "<init>", "(I)V"⟩
abbrev cX0_hasRoomFor : ByteArray := prog_2_method_2_code
def yX0_hasRoomFor : MethodName := ⟨RX0, "hasRoomFor", "(I)Z"⟩
abbrev cX0_byteAt : ByteArray := prog_2_method_3_code
def yX0_byteAt : MethodName := ⟨RX0, "byteAt", "(I)I"⟩
abbrev cX0_append : ByteArray := prog_2_method_4_code
def yX0_append : MethodName := ⟨RX0, "append", "(I)V"⟩
abbrev cX0_appendChain : ByteArray := prog_2_method_5_code
def yX0_appendChain : MethodName := ⟨RX0, "appendChain", "([I)V"⟩
abbrev cX0_appendFrom : ByteArray := prog_2_method_6_code
def yX0_appendFrom : MethodName := ⟨RX0, "appendFrom", "(LTreeHashes$Bytes;II)V"⟩
abbrev cX0_keepFirst : ByteArray := prog_2_method_7_code
def yX0_keepFirst : MethodName := ⟨RX0, "keepFirst", "(I)I"⟩
abbrev cX0_change : ByteArray := prog_2_method_8_code
def yX0_change : MethodName := ⟨RX0, "change", "(II)I"⟩
abbrev cX0_readChain : ByteArray := prog_2_method_9_code
def yX0_readChain : MethodName := ⟨RX0, "readChain", "(I[I)V"⟩
abbrev cX0_wordAt : ByteArray := prog_2_method_10_code
def yX0_wordAt : MethodName := ⟨RX0, "wordAt", "(I)I"⟩
def RX1 : String := "TreeHashes$Hasher"
def TX1 : u_T := fun k => match k with
  | 0 => ("TreeHashes$Hasher", "mix", "LTreeHashes$Mix;", true)
  | 1 => ("TreeHashes$Hasher", "key", "[I", true)
  | 2 => ("TreeHashes$Hasher", "stack", "[I", true)
  | 3 => ("TreeHashes$Hasher", "chunkChain", "[I", true)
  | 4 => ("TreeHashes$Hasher", "block", "[I", true)
  | 5 => ("TreeHashes$Hasher", "mode", "I", false)
  | 6 => ("TreeHashes$Hasher", "base", "I", false)
  | 7 => ("TreeHashes$Hasher", "firstChunk", "I", false)
  | 8 => ("TreeHashes$Hasher", "taken", "I", false)
  | 9 => ("TreeHashes$Hasher", "closed", "I", false)
  | 10 => ("TreeHashes$Hasher", "depth", "I", false)
  | 11 => ("TreeHashes$Hasher", "blocks", "I", false)
  | _ => ("TreeHashes$Hasher", "inBlock", "I", false)
def tyX1 : Nat → FieldType := fun k => match k with
  | 0 => .object "TreeHashes$Mix"
  | 1 => .array .int
  | 2 => .array .int
  | 3 => .array .int
  | 4 => .array .int
  | 5 => .int
  | 6 => .int
  | 7 => .int
  | 8 => .int
  | 9 => .int
  | 10 => .int
  | 11 => .int
  | _ => .int
abbrev wsX10 : List Cond := u_ws RX1 TX1 13
theorem nmX1 : ∀ a, a < 13 → ∀ b, b < 13 → a ≠ b → (TX1 a).2.1 ≠ (TX1 b).2.1 := by decide +kernel
theorem tyX1_ok : ∀ k, k < 13 → parseFieldDescriptor (TX1 k).2.2.1 = some (tyX1 k) := by decide +kernel
abbrev cX1_init : ByteArray := prog_3_method_1_code
def yX1_init : MethodName := ⟨RX1, "<init>", "()V"⟩
abbrev cX1_restart : ByteArray := prog_3_method_2_code
def yX1_restart : MethodName := ⟨RX1, "restart", "(II[II)V"⟩
abbrev cX1_becomeAs : ByteArray := prog_3_method_3_code
def yX1_becomeAs : MethodName := ⟨RX1, "becomeAs", "(LTreeHashes$Hasher;)V"⟩
abbrev cX1_absorb : ByteArray := prog_3_method_4_code
def yX1_absorb : MethodName := ⟨RX1, "absorb", "(LTreeHashes$Bytes;II)V"⟩
abbrev cX1_absorbByte : ByteArray := prog_3_method_5_code
def yX1_absorbByte : MethodName := ⟨RX1, "absorbByte", "(I)V"⟩
abbrev cX1_inChunk : ByteArray := prog_3_method_6_code
def yX1_inChunk : MethodName := ⟨RX1, "inChunk", "()I"⟩
abbrev cX1_stackWord : ByteArray := prog_3_method_7_code
def yX1_stackWord : MethodName := ⟨RX1, "stackWord", "(II)I"⟩
abbrev cX1_prepareLast : ByteArray := prog_3_method_8_code
def yX1_prepareLast : MethodName := ⟨RX1, "prepareLast", "()V"⟩
abbrev cX1_prepareBlock : ByteArray := prog_3_method_9_code
def yX1_prepareBlock : MethodName := ⟨RX1, "prepareBlock", "(I)V"⟩
abbrev cX1_closeBlock : ByteArray := prog_3_method_10_code
def yX1_closeBlock : MethodName := ⟨RX1, "closeBlock", "()V"⟩
abbrev cX1_closeChunk : ByteArray := prog_3_method_11_code
def yX1_closeChunk : MethodName := ⟨RX1, "closeChunk", "()V"⟩
abbrev cX1_startChunk : ByteArray := prog_3_method_12_code
def yX1_startChunk : MethodName := ⟨RX1, "startChunk", "()V"⟩
abbrev cX1_startBlock : ByteArray := prog_3_method_13_code
def yX1_startBlock : MethodName := ⟨RX1, "startBlock", "()V"⟩
abbrev cX1_copyWords : ByteArray := prog_3_method_14_code
def yX1_copyWords : MethodName := ⟨RX1, "copyWords", "([I[I)V"⟩
def RX2 : String := "TreeHashes$Mix"
def TX2 : u_T := fun k => match k with
  | 0 => ("TreeHashes$Mix", "chain", "[I", true)
  | 1 => ("TreeHashes$Mix", "block", "[I", true)
  | 2 => ("TreeHashes$Mix", "count", "J", false)
  | 3 => ("TreeHashes$Mix", "length", "I", false)
  | 4 => ("TreeHashes$Mix", "flags", "I", false)
  | 5 => ("TreeHashes$Mix", "v", "[I", true)
  | 6 => ("TreeHashes$Mix", "w", "[I", false)
  | _ => ("TreeHashes$Mix", "nextW", "[I", false)
def tyX2 : Nat → FieldType := fun k => match k with
  | 0 => .array .int
  | 1 => .array .int
  | 2 => .long
  | 3 => .int
  | 4 => .int
  | 5 => .array .int
  | 6 => .array .int
  | _ => .array .int
abbrev wsX20 : List Cond := u_ws RX2 TX2 8
theorem nmX2 : ∀ a, a < 8 → ∀ b, b < 8 → a ≠ b → (TX2 a).2.1 ≠ (TX2 b).2.1 := by decide +kernel
theorem tyX2_ok : ∀ k, k < 8 → parseFieldDescriptor (TX2 k).2.2.1 = some (tyX2 k) := by decide +kernel
abbrev cX2_init : ByteArray := prog_4_method_1_code
def yX2_init : MethodName := ⟨RX2, "<init>", "()V"⟩
abbrev cX2_prepare : ByteArray := prog_4_method_2_code
def yX2_prepare : MethodName := ⟨RX2, "prepare", "([I[IJII)V"⟩
abbrev cX2_joinBehind : ByteArray := prog_4_method_3_code
def yX2_joinBehind : MethodName := ⟨RX2, "joinBehind", "([II[II)V"⟩
abbrev cX2_joinBefore : ByteArray := prog_4_method_4_code
def yX2_joinBefore : MethodName := ⟨RX2, "joinBefore", "([II[II)V"⟩
abbrev cX2_makeRoot : ByteArray := prog_4_method_5_code
def yX2_makeRoot : MethodName := ⟨RX2, "makeRoot", "()V"⟩
abbrev cX2_writeChain : ByteArray := prog_4_method_6_code
def yX2_writeChain : MethodName := ⟨RX2, "writeChain", "([II)V"⟩
abbrev cX2_writeOutput : ByteArray := prog_4_method_7_code
def yX2_writeOutput : MethodName := ⟨RX2, "writeOutput", "(LTreeHashes$Bytes;IJ)V"⟩
abbrev cX2_rootBeginsWith : ByteArray := prog_4_method_8_code
def yX2_rootBeginsWith : MethodName := ⟨RX2, "rootBeginsWith", "(LTreeHashes$Bytes;)Z"⟩
abbrev cX2_outputByte : ByteArray := prog_4_method_9_code
def yX2_outputByte : MethodName := ⟨RX2, "outputByte", "(I)I"⟩
abbrev cX2_run : ByteArray := prog_4_method_10_code
def yX2_run : MethodName := ⟨RX2, "run", "()V"⟩
abbrev cX2_fillIn : ByteArray := prog_4_method_11_code
def yX2_fillIn : MethodName := ⟨RX2, "fillIn", "()V"⟩
abbrev cX2_turn : ByteArray := prog_4_method_12_code
def yX2_turn : MethodName := ⟨RX2, "turn", "(IIIIII)V"⟩
abbrev cX2_reorder : ByteArray := prog_4_method_13_code
def yX2_reorder : MethodName := ⟨RX2, "reorder", "()V"⟩
def RX3 : String := "TreeHashes$Way"
def TX3 : u_T := fun k => match k with
  | 0 => ("TreeHashes$Way", "otherFirst", "[I", true)
  | 1 => ("TreeHashes$Way", "otherChunks", "[I", true)
  | _ => ("TreeHashes$Way", "levels", "I", false)
def tyX3 : Nat → FieldType := fun k => match k with
  | 0 => .array .int
  | 1 => .array .int
  | _ => .int
abbrev wsX30 : List Cond := u_ws RX3 TX3 3
theorem nmX3 : ∀ a, a < 3 → ∀ b, b < 3 → a ≠ b → (TX3 a).2.1 ≠ (TX3 b).2.1 := by decide +kernel
theorem tyX3_ok : ∀ k, k < 3 → parseFieldDescriptor (TX3 k).2.2.1 = some (tyX3 k) := by decide +kernel
abbrev cX3_init : ByteArray := prog_5_method_1_code
def yX3_init : MethodName := ⟨RX3, "<init>", "()V"⟩
abbrev cX3_lead : ByteArray := prog_5_method_2_code
def yX3_lead : MethodName := ⟨RX3, "lead", "(II)V"⟩
abbrev cX3_leftOf : ByteArray := prog_5_method_3_code
def yX3_leftOf : MethodName := ⟨RX3, "leftOf", "(I)I"⟩
def RX4 : String := "TreeHashes"
def TX4 : u_T := fun k => match k with
  | 0 => ("TreeHashes", "registers", "[LTreeHashes$Bytes;", true)
  | 1 => ("TreeHashes", "hashers", "[LTreeHashes$Hasher;", true)
  | 2 => ("TreeHashes", "file", "LTreeHashes$Bytes;", true)
  | 3 => ("TreeHashes", "proven", "LTreeHashes$Bytes;", true)
  | 4 => ("TreeHashes", "worker", "LTreeHashes$Hasher;", true)
  | 5 => ("TreeHashes", "way", "LTreeHashes$Way;", true)
  | _ => ("TreeHashes", "words", "[I", true)
def tyX4 : Nat → FieldType := fun k => match k with
  | 0 => .array (.object "TreeHashes$Bytes")
  | 1 => .array (.object "TreeHashes$Hasher")
  | 2 => .object "TreeHashes$Bytes"
  | 3 => .object "TreeHashes$Bytes"
  | 4 => .object "TreeHashes$Hasher"
  | 5 => .object "TreeHashes$Way"
  | _ => .array .int
abbrev wsX40 : List Cond := u_ws RX4 TX4 7
theorem nmX4 : ∀ a, a < 7 → ∀ b, b < 7 → a ≠ b → (TX4 a).2.1 ≠ (TX4 b).2.1 := by decide +kernel
theorem tyX4_ok : ∀ k, k < 7 → parseFieldDescriptor (TX4 k).2.2.1 = some (tyX4 k) := by decide +kernel
abbrev cX4_init : ByteArray := prog_1_method_1_code
def yX4_init : MethodName := ⟨RX4, "<init>", "()V"⟩
abbrev cX4_add : ByteArray := prog_1_method_2_code
def yX4_add : MethodName := ⟨RX4, "add", "(IIJ)I"⟩
abbrev cX4_clear : ByteArray := prog_1_method_3_code
def yX4_clear : MethodName := ⟨RX4, "clear", "(I)I"⟩
abbrev cX4_size : ByteArray := prog_1_method_4_code
def yX4_size : MethodName := ⟨RX4, "size", "(I)I"⟩
abbrev cX4_at : ByteArray := prog_1_method_5_code
def yX4_at : MethodName := ⟨RX4, "at", "(II)I"⟩
abbrev cX4_begin : ByteArray := prog_1_method_6_code
def yX4_begin : MethodName := ⟨RX4, "begin", "(III)I"⟩
abbrev cX4_take : ByteArray := prog_1_method_7_code
def yX4_take : MethodName := ⟨RX4, "take", "(II)I"⟩
abbrev cX4_fill : ByteArray := prog_1_method_8_code
def yX4_fill : MethodName := ⟨RX4, "fill", "(IIII)I"⟩
abbrev cX4_output : ByteArray := prog_1_method_9_code
def yX4_output : MethodName := ⟨RX4, "output", "(IIIJ)I"⟩
abbrev cX4_copy : ByteArray := prog_1_method_10_code
def yX4_copy : MethodName := ⟨RX4, "copy", "(II)I"⟩
abbrev cX4_told : ByteArray := prog_1_method_11_code
def yX4_told : MethodName := ⟨RX4, "told", "(II)I"⟩
abbrev cX4_chain : ByteArray := prog_1_method_12_code
def yX4_chain : MethodName := ⟨RX4, "chain", "(III)I"⟩
abbrev cX4_grow : ByteArray := prog_1_method_13_code
def yX4_grow : MethodName := ⟨RX4, "grow", "(III)I"⟩
abbrev cX4_spoil : ByteArray := prog_1_method_14_code
def yX4_spoil : MethodName := ⟨RX4, "spoil", "(II)I"⟩
abbrev cX4_shorten : ByteArray := prog_1_method_15_code
def yX4_shorten : MethodName := ⟨RX4, "shorten", "(I)I"⟩
abbrev cX4_root : ByteArray := prog_1_method_16_code
def yX4_root : MethodName := ⟨RX4, "root", "(I)I"⟩
abbrev cX4_prove : ByteArray := prog_1_method_17_code
def yX4_prove : MethodName := ⟨RX4, "prove", "(I)I"⟩
abbrev cX4_proof : ByteArray := prog_1_method_18_code
def yX4_proof : MethodName := ⟨RX4, "proof", "(I)I"⟩
abbrev cX4_forge : ByteArray := prog_1_method_19_code
def yX4_forge : MethodName := ⟨RX4, "forge", "(II)I"⟩
abbrev cX4_cut : ByteArray := prog_1_method_20_code
def yX4_cut : MethodName := ⟨RX4, "cut", "(I)I"⟩
abbrev cX4_check : ByteArray := prog_1_method_21_code
def yX4_check : MethodName := ⟨RX4, "check", "(III)I"⟩
abbrev cX4_isRegister : ByteArray := prog_1_method_22_code
def yX4_isRegister : MethodName := ⟨RX4, "isRegister", "(I)Z"⟩
abbrev cX4_isHasher : ByteArray := prog_1_method_23_code
def yX4_isHasher : MethodName := ⟨RX4, "isHasher", "(I)Z"⟩
abbrev cX4_chunksOf : ByteArray := prog_1_method_24_code
def yX4_chunksOf : MethodName := ⟨RX4, "chunksOf", "(I)I"⟩
abbrev cX4_hasChunk : ByteArray := prog_1_method_25_code
def yX4_hasChunk : MethodName := ⟨RX4, "hasChunk", "(II)Z"⟩
abbrev cX4_chunkLength : ByteArray := prog_1_method_26_code
def yX4_chunkLength : MethodName := ⟨RX4, "chunkLength", "(II)I"⟩
abbrev cX4_deriveKey : ByteArray := prog_1_method_27_code
def yX4_deriveKey : MethodName := ⟨RX4, "deriveKey", "(LTreeHashes$Bytes;)V"⟩
abbrev cX4_prepareTree : ByteArray := prog_1_method_28_code
def yX4_prepareTree : MethodName := ⟨RX4, "prepareTree", "(LTreeHashes$Bytes;III)V"⟩
abbrev cX4_climb : ByteArray := prog_1_method_29_code
def yX4_climb : MethodName := ⟨RX4, "climb", "(II)V"⟩
def RX5 : String := "TreeHashesModel"
def TX5 : u_T := fun k => match k with
  | 0 => ("TreeHashesModel", "registers", "[I", true)
  | 1 => ("TreeHashesModel", "sizes", "[I", true)
  | 2 => ("TreeHashesModel", "taken", "[I", true)
  | 3 => ("TreeHashesModel", "count", "[I", true)
  | 4 => ("TreeHashesModel", "mode", "[I", true)
  | 5 => ("TreeHashesModel", "keys", "[I", true)
  | 6 => ("TreeHashesModel", "chains", "[I", true)
  | 7 => ("TreeHashesModel", "made", "[I", true)
  | 8 => ("TreeHashesModel", "file", "[I", true)
  | 9 => ("TreeHashesModel", "length", "I", false)
  | 10 => ("TreeHashesModel", "proof", "[I", true)
  | 11 => ("TreeHashesModel", "proofSize", "I", false)
  | 12 => ("TreeHashesModel", "start", "[I", true)
  | 13 => ("TreeHashesModel", "key", "[I", true)
  | 14 => ("TreeHashesModel", "base", "I", false)
  | 15 => ("TreeHashesModel", "chain", "[I", true)
  | 16 => ("TreeHashesModel", "block", "[I", true)
  | 17 => ("TreeHashesModel", "v", "[I", true)
  | 18 => ("TreeHashesModel", "w", "[I", true)
  | 19 => ("TreeHashesModel", "old", "[I", true)
  | 20 => ("TreeHashesModel", "order", "[I", true)
  | 21 => ("TreeHashesModel", "number", "J", false)
  | 22 => ("TreeHashesModel", "blockLength", "I", false)
  | 23 => ("TreeHashesModel", "flags", "I", false)
  | 24 => ("TreeHashesModel", "pile", "[I", true)
  | 25 => ("TreeHashesModel", "high", "I", false)
  | 26 => ("TreeHashesModel", "closed", "I", false)
  | _ => ("TreeHashesModel", "isLeft", "[Z", true)
def tyX5 : Nat → FieldType := fun k => match k with
  | 0 => .array .int
  | 1 => .array .int
  | 2 => .array .int
  | 3 => .array .int
  | 4 => .array .int
  | 5 => .array .int
  | 6 => .array .int
  | 7 => .array .int
  | 8 => .array .int
  | 9 => .int
  | 10 => .array .int
  | 11 => .int
  | 12 => .array .int
  | 13 => .array .int
  | 14 => .int
  | 15 => .array .int
  | 16 => .array .int
  | 17 => .array .int
  | 18 => .array .int
  | 19 => .array .int
  | 20 => .array .int
  | 21 => .long
  | 22 => .int
  | 23 => .int
  | 24 => .array .int
  | 25 => .int
  | 26 => .int
  | _ => .array .boolean
abbrev wsX50 : List Cond := u_ws RX5 TX5 28
theorem nmX5 : ∀ a, a < 28 → ∀ b, b < 28 → a ≠ b → (TX5 a).2.1 ≠ (TX5 b).2.1 := by decide +kernel
theorem tyX5_ok : ∀ k, k < 28 → parseFieldDescriptor (TX5 k).2.2.1 = some (tyX5 k) := by decide +kernel
abbrev cX5_init : ByteArray := prog_7_method_1_code
def yX5_init : MethodName := ⟨RX5, "<init>", "()V"⟩
abbrev cX5_plain : ByteArray := prog_7_method_2_code
def yX5_plain : MethodName := ⟨RX5, "plain", "(I)V"⟩
abbrev cX5_in : ByteArray := prog_7_method_3_code
def yX5_in : MethodName := ⟨RX5, "in", "(JJJ)Z"⟩
abbrev cX5_turned : ByteArray := prog_7_method_4_code
def yX5_turned : MethodName := ⟨RX5, "turned", "(II)I"⟩
abbrev cX5_turn : ByteArray := prog_7_method_5_code
def yX5_turn : MethodName := ⟨RX5, "turn", "(IIIII)V"⟩
abbrev cX5_mix : ByteArray := prog_7_method_6_code
def yX5_mix : MethodName := ⟨RX5, "mix", "(JI)V"⟩
abbrev cX5_mixIn : ByteArray := prog_7_method_7_code
def yX5_mixIn : MethodName := ⟨RX5, "mixIn", "()V"⟩
abbrev cX5_chunk : ByteArray := prog_7_method_8_code
def yX5_chunk : MethodName := ⟨RX5, "chunk", "([IIIJ)V"⟩
abbrev cX5_parent : ByteArray := prog_7_method_9_code
def yX5_parent : MethodName := ⟨RX5, "parent", "()V"⟩
abbrev cX5_close : ByteArray := prog_7_method_10_code
def yX5_close : MethodName := ⟨RX5, "close", "()V"⟩
abbrev cX5_beginPile : ByteArray := prog_7_method_11_code
def yX5_beginPile : MethodName := ⟨RX5, "beginPile", "()V"⟩
abbrev cX5_chunksOf : ByteArray := prog_7_method_12_code
def yX5_chunksOf : MethodName := ⟨RX5, "chunksOf", "(I)I"⟩
abbrev cX5_chunkSize : ByteArray := prog_7_method_13_code
def yX5_chunkSize : MethodName := ⟨RX5, "chunkSize", "(II)I"⟩
abbrev cX5_tree : ByteArray := prog_7_method_14_code
def yX5_tree : MethodName := ⟨RX5, "tree", "([IIIII)V"⟩
abbrev cX5_useKey : ByteArray := prog_7_method_15_code
def yX5_useKey : MethodName := ⟨RX5, "useKey", "(I)V"⟩
abbrev cX5_pileOf : ByteArray := prog_7_method_16_code
def yX5_pileOf : MethodName := ⟨RX5, "pileOf", "(I)V"⟩
abbrev cX5_closedOf : ByteArray := prog_7_method_17_code
def yX5_closedOf : MethodName := ⟨RX5, "closedOf", "(I)I"⟩
abbrev cX5_isRegister : ByteArray := prog_7_method_18_code
def yX5_isRegister : MethodName := ⟨RX5, "isRegister", "(I)Z"⟩
abbrev cX5_isHasher : ByteArray := prog_7_method_19_code
def yX5_isHasher : MethodName := ⟨RX5, "isHasher", "(I)Z"⟩
abbrev cX5_add : ByteArray := prog_7_method_20_code
def yX5_add : MethodName := ⟨RX5, "add", "(IIJ)I"⟩
abbrev cX5_clear : ByteArray := prog_7_method_21_code
def yX5_clear : MethodName := ⟨RX5, "clear", "(I)I"⟩
abbrev cX5_size : ByteArray := prog_7_method_22_code
def yX5_size : MethodName := ⟨RX5, "size", "(I)I"⟩
abbrev cX5_at : ByteArray := prog_7_method_23_code
def yX5_at : MethodName := ⟨RX5, "at", "(II)I"⟩
abbrev cX5_begin : ByteArray := prog_7_method_24_code
def yX5_begin : MethodName := ⟨RX5, "begin", "(III)I"⟩
abbrev cX5_wordAt : ByteArray := prog_7_method_25_code
def yX5_wordAt : MethodName := ⟨RX5, "wordAt", "([II)I"⟩
abbrev cX5_take : ByteArray := prog_7_method_26_code
def yX5_take : MethodName := ⟨RX5, "take", "(II)I"⟩
abbrev cX5_fill : ByteArray := prog_7_method_27_code
def yX5_fill : MethodName := ⟨RX5, "fill", "(IIII)I"⟩
abbrev cX5_rootOf : ByteArray := prog_7_method_28_code
def yX5_rootOf : MethodName := ⟨RX5, "rootOf", "(I)V"⟩
abbrev cX5_output : ByteArray := prog_7_method_29_code
def yX5_output : MethodName := ⟨RX5, "output", "(IIIJ)I"⟩
abbrev cX5_copy : ByteArray := prog_7_method_30_code
def yX5_copy : MethodName := ⟨RX5, "copy", "(II)I"⟩
abbrev cX5_told : ByteArray := prog_7_method_31_code
def yX5_told : MethodName := ⟨RX5, "told", "(II)I"⟩
abbrev cX5_chain : ByteArray := prog_7_method_32_code
def yX5_chain : MethodName := ⟨RX5, "chain", "(III)I"⟩
abbrev cX5_grow : ByteArray := prog_7_method_33_code
def yX5_grow : MethodName := ⟨RX5, "grow", "(III)I"⟩
abbrev cX5_spoil : ByteArray := prog_7_method_34_code
def yX5_spoil : MethodName := ⟨RX5, "spoil", "(II)I"⟩
abbrev cX5_shorten : ByteArray := prog_7_method_35_code
def yX5_shorten : MethodName := ⟨RX5, "shorten", "(I)I"⟩
abbrev cX5_root : ByteArray := prog_7_method_36_code
def yX5_root : MethodName := ⟨RX5, "root", "(I)I"⟩
abbrev cX5_leftOf : ByteArray := prog_7_method_37_code
def yX5_leftOf : MethodName := ⟨RX5, "leftOf", "(I)I"⟩
abbrev cX5_prove : ByteArray := prog_7_method_38_code
def yX5_prove : MethodName := ⟨RX5, "prove", "(I)I"⟩
abbrev cX5_proof : ByteArray := prog_7_method_39_code
def yX5_proof : MethodName := ⟨RX5, "proof", "(I)I"⟩
abbrev cX5_forge : ByteArray := prog_7_method_40_code
def yX5_forge : MethodName := ⟨RX5, "forge", "(II)I"⟩
abbrev cX5_cut : ByteArray := prog_7_method_41_code
def yX5_cut : MethodName := ⟨RX5, "cut", "(I)I"⟩
abbrev cX5_check : ByteArray := prog_7_method_42_code
def yX5_check : MethodName := ⟨RX5, "check", "(III)I"⟩
def RJ9 : String := "java/lang/Math"
def TJ9 : u_T := fun k => match k with
  | _ => ("", "", "", false)
def tyJ9 : Nat → FieldType := fun k => match k with
  | _ => .int
abbrev wsJ90 : List Cond := u_ws RJ9 TJ9 0
theorem nmJ9 : ∀ a, a < 0 → ∀ b, b < 0 → a ≠ b → (TJ9 a).2.1 ≠ (TJ9 b).2.1 := by decide +kernel
theorem tyJ9_ok : ∀ k, k < 0 → parseFieldDescriptor (TJ9 k).2.2.1 = some (tyJ9 k) := by decide +kernel
abbrev cJ9_max_7cf53 : ByteArray := prog_8_method_65_code
def yJ9_max_7cf53 : MethodName := ⟨RJ9, "max", "(II)I"⟩
abbrev cJ9_min_7cf53 : ByteArray := prog_8_method_69_code
def yJ9_min_7cf53 : MethodName := ⟨RJ9, "min", "(II)I"⟩
def RL : String := "TreeHashesLaw"
abbrev cL_law : ByteArray := code
def yL_law : MethodName := ⟨RL, "law", "([I)Z"⟩
def wsX0_init : List Cond := .code yX0_init cX0_init 2 none :: ([.methodLink RX0 3 objectInit, .instanceMethod objectInit, .code objectInit ⟨#[0xb1]⟩ 1 none, .methodLink RX0 9 Lib.Math.max.name, .static Lib.Math.max.name, .initialized "java/lang/Math", .code Lib.Math.max.name Lib.Math.max.code 2 (some .int), .arrayClass .byte, .fieldLink RX0 15 "TreeHashes$Bytes" "row" "[B"] ++ wsX00)
def wsX0_hasRoomFor : List Cond := .code yX0_hasRoomFor cX0_hasRoomFor 2 (some .boolean) :: ([.fieldLink RX0 15 "TreeHashes$Bytes" "row" "[B", .fieldLink RX0 21 "TreeHashes$Bytes" "count" "I"] ++ wsX00)
def wsX0_byteAt : List Cond := .code yX0_byteAt cX0_byteAt 2 (some .int) :: ([.fieldLink RX0 21 "TreeHashes$Bytes" "count" "I", .fieldLink RX0 15 "TreeHashes$Bytes" "row" "[B"] ++ wsX00)
def wsX0_append : List Cond := .code yX0_append cX0_append 2 none :: ([.fieldLink RX0 21 "TreeHashes$Bytes" "count" "I", .fieldLink RX0 15 "TreeHashes$Bytes" "row" "[B"] ++ wsX00)
def wsX0_appendChain : List Cond := .code yX0_appendChain cX0_appendChain 3 none :: ([.methodLink RX0 25 yX0_append, .instanceMethod yX0_append, .selects RX0 yX0_append yX0_append, .initialized RX0, .code yX0_append cX0_append 2 none, .fieldLink RX0 21 "TreeHashes$Bytes" "count" "I", .fieldLink RX0 15 "TreeHashes$Bytes" "row" "[B"] ++ wsX00)
def wsX0_appendFrom : List Cond := .code yX0_appendFrom cX0_appendFrom 5 none :: ([.methodLink RX0 29 yX0_byteAt, .instanceMethod yX0_byteAt, .selects RX0 yX0_byteAt yX0_byteAt, .initialized RX0, .code yX0_byteAt cX0_byteAt 2 (some .int), .fieldLink RX0 21 "TreeHashes$Bytes" "count" "I", .fieldLink RX0 15 "TreeHashes$Bytes" "row" "[B", .methodLink RX0 25 yX0_append, .instanceMethod yX0_append, .selects RX0 yX0_append yX0_append, .code yX0_append cX0_append 2 none] ++ wsX00)
def wsX0_keepFirst : List Cond := .code yX0_keepFirst cX0_keepFirst 3 (some .int) :: ([.fieldLink RX0 21 "TreeHashes$Bytes" "count" "I"] ++ wsX00)
def wsX0_change : List Cond := .code yX0_change cX0_change 3 (some .int) :: ([.fieldLink RX0 21 "TreeHashes$Bytes" "count" "I", .fieldLink RX0 15 "TreeHashes$Bytes" "row" "[B"] ++ wsX00)
def wsX0_wordAt : List Cond := .code yX0_wordAt cX0_wordAt 2 (some .int) :: ([.methodLink RX0 29 yX0_byteAt, .instanceMethod yX0_byteAt, .selects RX0 yX0_byteAt yX0_byteAt, .initialized RX0, .code yX0_byteAt cX0_byteAt 2 (some .int), .fieldLink RX0 21 "TreeHashes$Bytes" "count" "I", .fieldLink RX0 15 "TreeHashes$Bytes" "row" "[B"] ++ wsX00)
def wsX0_readChain : List Cond := .code yX0_readChain cX0_readChain 4 none :: ([.methodLink RX0 33 yX0_wordAt, .instanceMethod yX0_wordAt, .selects RX0 yX0_wordAt yX0_wordAt, .initialized RX0, .code yX0_wordAt cX0_wordAt 2 (some .int), .methodLink RX0 29 yX0_byteAt, .instanceMethod yX0_byteAt, .selects RX0 yX0_byteAt yX0_byteAt, .code yX0_byteAt cX0_byteAt 2 (some .int), .fieldLink RX0 21 "TreeHashes$Bytes" "count" "I", .fieldLink RX0 15 "TreeHashes$Bytes" "row" "[B"] ++ wsX00)
def wsX2_init : List Cond := .code yX2_init cX2_init 1 none :: ([.methodLink RX2 3 objectInit, .instanceMethod objectInit, .code objectInit ⟨#[0xb1]⟩ 1 none, .arrayClass .int, .fieldLink RX2 9 "TreeHashes$Mix" "chain" "[I", .fieldLink RX2 15 "TreeHashes$Mix" "block" "[I", .fieldLink RX2 18 "TreeHashes$Mix" "v" "[I", .fieldLink RX2 21 "TreeHashes$Mix" "w" "[I", .fieldLink RX2 24 "TreeHashes$Mix" "nextW" "[I"] ++ wsX20)
def wsX1_copyWords : List Cond := .code yX1_copyWords cX1_copyWords 3 none :: ([])
def wsX1_startBlock : List Cond := .code yX1_startBlock cX1_startBlock 2 none :: ([.fieldLink RX1 28 "TreeHashes$Hasher" "block" "[I", .fieldLink RX1 67 "TreeHashes$Hasher" "inBlock" "I"] ++ wsX10)
def wsX1_startChunk : List Cond := .code yX1_startChunk cX1_startChunk 1 none :: ([.fieldLink RX1 18 "TreeHashes$Hasher" "key" "[I", .fieldLink RX1 25 "TreeHashes$Hasher" "chunkChain" "[I", .fieldLink RX1 64 "TreeHashes$Hasher" "blocks" "I", .methodLink RX1 38 yX1_copyWords, .static yX1_copyWords, .initialized RX1, .code yX1_copyWords cX1_copyWords 3 none, .methodLink RX1 104 yX1_startBlock, .instanceMethod yX1_startBlock, .selects RX1 yX1_startBlock yX1_startBlock, .code yX1_startBlock cX1_startBlock 2 none, .fieldLink RX1 28 "TreeHashes$Hasher" "block" "[I", .fieldLink RX1 67 "TreeHashes$Hasher" "inBlock" "I"] ++ wsX10)
def wsX1_restart : List Cond := .code yX1_restart cX1_restart 5 none :: ([.fieldLink RX1 18 "TreeHashes$Hasher" "key" "[I", .fieldLink RX1 42 "TreeHashes$Hasher" "mode" "I", .fieldLink RX1 46 "TreeHashes$Hasher" "base" "I", .fieldLink RX1 49 "TreeHashes$Hasher" "firstChunk" "I", .fieldLink RX1 52 "TreeHashes$Hasher" "taken" "I", .fieldLink RX1 55 "TreeHashes$Hasher" "closed" "I", .fieldLink RX1 58 "TreeHashes$Hasher" "depth" "I", .methodLink RX1 38 yX1_copyWords, .static yX1_copyWords, .initialized RX1, .code yX1_copyWords cX1_copyWords 3 none, .methodLink RX1 61 yX1_startChunk, .instanceMethod yX1_startChunk, .selects RX1 yX1_startChunk yX1_startChunk, .code yX1_startChunk cX1_startChunk 1 none, .fieldLink RX1 25 "TreeHashes$Hasher" "chunkChain" "[I", .fieldLink RX1 64 "TreeHashes$Hasher" "blocks" "I", .methodLink RX1 104 yX1_startBlock, .instanceMethod yX1_startBlock, .selects RX1 yX1_startBlock yX1_startBlock, .code yX1_startBlock cX1_startBlock 2 none, .fieldLink RX1 28 "TreeHashes$Hasher" "block" "[I", .fieldLink RX1 67 "TreeHashes$Hasher" "inBlock" "I"] ++ wsX10)
def wsX1_init_r1 : List Cond := [Cond.methodLink RX1 5 objectInit, Cond.instanceMethod objectInit, Cond.code objectInit ⟨#[0xb1]⟩ 1 none, Cond.classLink RX1 11 RX2, Cond.instantiable RX2 8, Cond.initialized RX2, Cond.fieldLink RX1 14 "TreeHashes$Hasher" "mix" "LTreeHashes$Mix;", Cond.arrayClass .int, Cond.fieldLink RX1 18 "TreeHashes$Hasher" "key" "[I", Cond.fieldLink RX1 22 "TreeHashes$Hasher" "stack" "[I", Cond.fieldLink RX1 25 "TreeHashes$Hasher" "chunkChain" "[I", Cond.fieldLink RX1 28 "TreeHashes$Hasher" "block" "[I", Cond.fieldLink RX1 31 "TreeHashes$Mix" "START" "[I", Cond.instanceMethod yX2_init, Cond.code yX2_init cX2_init 1 none, Cond.methodLink RX2 3 objectInit, Cond.fieldLink RX2 9 "TreeHashes$Mix" "chain" "[I", Cond.fieldLink RX2 15 "TreeHashes$Mix" "block" "[I", Cond.fieldLink RX2 18 "TreeHashes$Mix" "v" "[I", Cond.fieldLink RX2 21 "TreeHashes$Mix" "w" "[I", Cond.fieldLink RX2 24 "TreeHashes$Mix" "nextW" "[I", Cond.methodLink RX1 34 yX1_restart, Cond.instanceMethod yX1_restart, Cond.selects RX1 yX1_restart yX1_restart]
def wsX1_init_r2 : List Cond := [Cond.initialized RX1, Cond.code yX1_restart cX1_restart 5 none, Cond.fieldLink RX1 42 "TreeHashes$Hasher" "mode" "I", Cond.fieldLink RX1 46 "TreeHashes$Hasher" "base" "I", Cond.fieldLink RX1 49 "TreeHashes$Hasher" "firstChunk" "I", Cond.fieldLink RX1 52 "TreeHashes$Hasher" "taken" "I", Cond.fieldLink RX1 55 "TreeHashes$Hasher" "closed" "I", Cond.fieldLink RX1 58 "TreeHashes$Hasher" "depth" "I", Cond.methodLink RX1 38 yX1_copyWords, Cond.static yX1_copyWords, Cond.code yX1_copyWords cX1_copyWords 3 none, Cond.methodLink RX1 61 yX1_startChunk, Cond.instanceMethod yX1_startChunk, Cond.selects RX1 yX1_startChunk yX1_startChunk, Cond.code yX1_startChunk cX1_startChunk 1 none, Cond.fieldLink RX1 64 "TreeHashes$Hasher" "blocks" "I", Cond.methodLink RX1 104 yX1_startBlock, Cond.instanceMethod yX1_startBlock, Cond.selects RX1 yX1_startBlock yX1_startBlock, Cond.code yX1_startBlock cX1_startBlock 2 none, Cond.fieldLink RX1 67 "TreeHashes$Hasher" "inBlock" "I"]
def wsX1_init : List Cond := .code yX1_init cX1_init 1 none :: ((wsX1_init_r1 ++ wsX1_init_r2) ++ wsX20 ++ wsX10)
def wsX1_becomeAs : List Cond := .code yX1_becomeAs cX1_becomeAs 2 none :: ([.fieldLink RX1 18 "TreeHashes$Hasher" "key" "[I", .fieldLink RX1 22 "TreeHashes$Hasher" "stack" "[I", .fieldLink RX1 25 "TreeHashes$Hasher" "chunkChain" "[I", .fieldLink RX1 28 "TreeHashes$Hasher" "block" "[I", .fieldLink RX1 42 "TreeHashes$Hasher" "mode" "I", .fieldLink RX1 46 "TreeHashes$Hasher" "base" "I", .fieldLink RX1 49 "TreeHashes$Hasher" "firstChunk" "I", .fieldLink RX1 52 "TreeHashes$Hasher" "taken" "I", .fieldLink RX1 55 "TreeHashes$Hasher" "closed" "I", .fieldLink RX1 58 "TreeHashes$Hasher" "depth" "I", .fieldLink RX1 64 "TreeHashes$Hasher" "blocks" "I", .fieldLink RX1 67 "TreeHashes$Hasher" "inBlock" "I", .methodLink RX1 38 yX1_copyWords, .static yX1_copyWords, .initialized RX1, .code yX1_copyWords cX1_copyWords 3 none] ++ wsX10)
def wsX2_prepare : List Cond := .code yX2_prepare cX2_prepare 8 none :: ([.fieldLink RX2 9 "TreeHashes$Mix" "chain" "[I", .fieldLink RX2 15 "TreeHashes$Mix" "block" "[I", .fieldLink RX2 27 "TreeHashes$Mix" "count" "J", .fieldLink RX2 31 "TreeHashes$Mix" "length" "I", .fieldLink RX2 35 "TreeHashes$Mix" "flags" "I"] ++ wsX20)
def wsX1_prepareBlock : List Cond := .code yX1_prepareBlock cX1_prepareBlock 3 none :: ([.fieldLink RX1 64 "TreeHashes$Hasher" "blocks" "I", .fieldLink RX1 14 "TreeHashes$Hasher" "mix" "LTreeHashes$Mix;", .fieldLink RX1 25 "TreeHashes$Hasher" "chunkChain" "[I", .fieldLink RX1 28 "TreeHashes$Hasher" "block" "[I", .fieldLink RX1 49 "TreeHashes$Hasher" "firstChunk" "I", .fieldLink RX1 55 "TreeHashes$Hasher" "closed" "I", .fieldLink RX1 67 "TreeHashes$Hasher" "inBlock" "I", .fieldLink RX1 46 "TreeHashes$Hasher" "base" "I", .methodLink RX1 96 yX2_prepare, .instanceMethod yX2_prepare, .selects RX2 yX2_prepare yX2_prepare, .initialized RX2, .code yX2_prepare cX2_prepare 8 none, .fieldLink RX2 9 "TreeHashes$Mix" "chain" "[I", .fieldLink RX2 15 "TreeHashes$Mix" "block" "[I", .fieldLink RX2 27 "TreeHashes$Mix" "count" "J", .fieldLink RX2 31 "TreeHashes$Mix" "length" "I", .fieldLink RX2 35 "TreeHashes$Mix" "flags" "I"] ++ wsX10 ++ wsX20)
def wsX2_fillIn : List Cond := .code yX2_fillIn cX2_fillIn 2 none :: ([.fieldLink RX2 18 "TreeHashes$Mix" "v" "[I", .fieldLink RX2 9 "TreeHashes$Mix" "chain" "[I", .fieldLink RX2 76 "TreeHashes$Mix" "START" "[I", .fieldLink RX2 27 "TreeHashes$Mix" "count" "J", .fieldLink RX2 31 "TreeHashes$Mix" "length" "I", .fieldLink RX2 35 "TreeHashes$Mix" "flags" "I", .fieldLink RX2 21 "TreeHashes$Mix" "w" "[I", .fieldLink RX2 15 "TreeHashes$Mix" "block" "[I"] ++ wsX20)
def wsX2_turn : List Cond := .code yX2_turn cX2_turn 11 none :: ([.fieldLink RX2 18 "TreeHashes$Mix" "v" "[I"] ++ wsX20)
def wsX2_reorder : List Cond := .code yX2_reorder cX2_reorder 2 none :: ([.fieldLink RX2 24 "TreeHashes$Mix" "nextW" "[I", .fieldLink RX2 21 "TreeHashes$Mix" "w" "[I", .fieldLink RX2 79 "TreeHashes$Mix" "ORDER" "[I"] ++ wsX20)
def wsX2_run : List Cond := .code yX2_run cX2_run 2 none :: ([.fieldLink RX2 21 "TreeHashes$Mix" "w" "[I", .fieldLink RX2 18 "TreeHashes$Mix" "v" "[I", .fieldLink RX2 9 "TreeHashes$Mix" "chain" "[I", .methodLink RX2 66 yX2_fillIn, .instanceMethod yX2_fillIn, .selects RX2 yX2_fillIn yX2_fillIn, .initialized RX2, .code yX2_fillIn cX2_fillIn 2 none, .fieldLink RX2 76 "TreeHashes$Mix" "START" "[I", .fieldLink RX2 27 "TreeHashes$Mix" "count" "J", .fieldLink RX2 31 "TreeHashes$Mix" "length" "I", .fieldLink RX2 35 "TreeHashes$Mix" "flags" "I", .fieldLink RX2 15 "TreeHashes$Mix" "block" "[I", .methodLink RX2 69 yX2_turn, .instanceMethod yX2_turn, .selects RX2 yX2_turn yX2_turn, .code yX2_turn cX2_turn 11 none, .methodLink RX2 73 yX2_reorder, .instanceMethod yX2_reorder, .selects RX2 yX2_reorder yX2_reorder, .code yX2_reorder cX2_reorder 2 none, .fieldLink RX2 24 "TreeHashes$Mix" "nextW" "[I", .fieldLink RX2 79 "TreeHashes$Mix" "ORDER" "[I"] ++ wsX20)
def wsX2_joinBehind : List Cond := .code yX2_joinBehind cX2_joinBehind 6 none :: ([.fieldLink RX2 15 "TreeHashes$Mix" "block" "[I", .fieldLink RX2 18 "TreeHashes$Mix" "v" "[I", .methodLink RX2 38 yX2_prepare, .instanceMethod yX2_prepare, .selects RX2 yX2_prepare yX2_prepare, .initialized RX2, .code yX2_prepare cX2_prepare 8 none, .fieldLink RX2 9 "TreeHashes$Mix" "chain" "[I", .fieldLink RX2 27 "TreeHashes$Mix" "count" "J", .fieldLink RX2 31 "TreeHashes$Mix" "length" "I", .fieldLink RX2 35 "TreeHashes$Mix" "flags" "I"] ++ wsX20)
def wsX2_writeChain : List Cond := .code yX2_writeChain cX2_writeChain 4 none :: ([.fieldLink RX2 18 "TreeHashes$Mix" "v" "[I"] ++ wsX20)
def wsX1_closeChunk_r1 : List Cond := [Cond.fieldLink RX1 14 "TreeHashes$Hasher" "mix" "LTreeHashes$Mix;", Cond.fieldLink RX1 55 "TreeHashes$Hasher" "closed" "I", Cond.fieldLink RX1 58 "TreeHashes$Hasher" "depth" "I", Cond.fieldLink RX1 22 "TreeHashes$Hasher" "stack" "[I", Cond.fieldLink RX1 18 "TreeHashes$Hasher" "key" "[I", Cond.fieldLink RX1 46 "TreeHashes$Hasher" "base" "I", Cond.methodLink RX1 86 yX1_prepareBlock, Cond.instanceMethod yX1_prepareBlock, Cond.selects RX1 yX1_prepareBlock yX1_prepareBlock, Cond.initialized RX1, Cond.code yX1_prepareBlock cX1_prepareBlock 3 none, Cond.fieldLink RX1 64 "TreeHashes$Hasher" "blocks" "I", Cond.fieldLink RX1 25 "TreeHashes$Hasher" "chunkChain" "[I", Cond.fieldLink RX1 28 "TreeHashes$Hasher" "block" "[I", Cond.fieldLink RX1 49 "TreeHashes$Hasher" "firstChunk" "I", Cond.fieldLink RX1 67 "TreeHashes$Hasher" "inBlock" "I", Cond.methodLink RX1 96 yX2_prepare, Cond.instanceMethod yX2_prepare, Cond.selects RX2 yX2_prepare yX2_prepare, Cond.initialized RX2, Cond.code yX2_prepare cX2_prepare 8 none, Cond.fieldLink RX2 9 "TreeHashes$Mix" "chain" "[I", Cond.fieldLink RX2 15 "TreeHashes$Mix" "block" "[I", Cond.fieldLink RX2 27 "TreeHashes$Mix" "count" "J"]
def wsX1_closeChunk_r2 : List Cond := [Cond.fieldLink RX2 31 "TreeHashes$Mix" "length" "I", Cond.fieldLink RX2 35 "TreeHashes$Mix" "flags" "I", Cond.methodLink RX1 89 yX2_run, Cond.instanceMethod yX2_run, Cond.selects RX2 yX2_run yX2_run, Cond.code yX2_run cX2_run 2 none, Cond.fieldLink RX2 21 "TreeHashes$Mix" "w" "[I", Cond.fieldLink RX2 18 "TreeHashes$Mix" "v" "[I", Cond.methodLink RX2 66 yX2_fillIn, Cond.instanceMethod yX2_fillIn, Cond.selects RX2 yX2_fillIn yX2_fillIn, Cond.code yX2_fillIn cX2_fillIn 2 none, Cond.fieldLink RX2 76 "TreeHashes$Mix" "START" "[I", Cond.methodLink RX2 69 yX2_turn, Cond.instanceMethod yX2_turn, Cond.selects RX2 yX2_turn yX2_turn, Cond.code yX2_turn cX2_turn 11 none, Cond.methodLink RX2 73 yX2_reorder, Cond.instanceMethod yX2_reorder, Cond.selects RX2 yX2_reorder yX2_reorder, Cond.code yX2_reorder cX2_reorder 2 none, Cond.fieldLink RX2 24 "TreeHashes$Mix" "nextW" "[I", Cond.fieldLink RX2 79 "TreeHashes$Mix" "ORDER" "[I", Cond.methodLink RX1 92 yX2_joinBehind]
def wsX1_closeChunk_r3 : List Cond := [Cond.instanceMethod yX2_joinBehind, Cond.selects RX2 yX2_joinBehind yX2_joinBehind, Cond.code yX2_joinBehind cX2_joinBehind 6 none, Cond.methodLink RX2 38 yX2_prepare, Cond.methodLink RX1 100 yX2_writeChain, Cond.instanceMethod yX2_writeChain, Cond.selects RX2 yX2_writeChain yX2_writeChain, Cond.code yX2_writeChain cX2_writeChain 4 none, Cond.methodLink RX1 61 yX1_startChunk, Cond.instanceMethod yX1_startChunk, Cond.selects RX1 yX1_startChunk yX1_startChunk, Cond.code yX1_startChunk cX1_startChunk 1 none, Cond.methodLink RX1 38 yX1_copyWords, Cond.static yX1_copyWords, Cond.code yX1_copyWords cX1_copyWords 3 none, Cond.methodLink RX1 104 yX1_startBlock, Cond.instanceMethod yX1_startBlock, Cond.selects RX1 yX1_startBlock yX1_startBlock, Cond.code yX1_startBlock cX1_startBlock 2 none]
def wsX1_closeChunk : List Cond := .code yX1_closeChunk cX1_closeChunk 2 none :: ((wsX1_closeChunk_r1 ++ (wsX1_closeChunk_r2 ++ wsX1_closeChunk_r3)) ++ wsX10 ++ wsX20)
def wsX1_closeBlock_r1 : List Cond := [Cond.fieldLink RX1 14 "TreeHashes$Hasher" "mix" "LTreeHashes$Mix;", Cond.fieldLink RX1 25 "TreeHashes$Hasher" "chunkChain" "[I", Cond.fieldLink RX1 64 "TreeHashes$Hasher" "blocks" "I", Cond.methodLink RX1 86 yX1_prepareBlock, Cond.instanceMethod yX1_prepareBlock, Cond.selects RX1 yX1_prepareBlock yX1_prepareBlock, Cond.initialized RX1, Cond.code yX1_prepareBlock cX1_prepareBlock 3 none, Cond.fieldLink RX1 28 "TreeHashes$Hasher" "block" "[I", Cond.fieldLink RX1 49 "TreeHashes$Hasher" "firstChunk" "I", Cond.fieldLink RX1 55 "TreeHashes$Hasher" "closed" "I", Cond.fieldLink RX1 67 "TreeHashes$Hasher" "inBlock" "I", Cond.fieldLink RX1 46 "TreeHashes$Hasher" "base" "I", Cond.methodLink RX1 96 yX2_prepare, Cond.instanceMethod yX2_prepare, Cond.selects RX2 yX2_prepare yX2_prepare, Cond.initialized RX2, Cond.code yX2_prepare cX2_prepare 8 none, Cond.fieldLink RX2 9 "TreeHashes$Mix" "chain" "[I", Cond.fieldLink RX2 15 "TreeHashes$Mix" "block" "[I", Cond.fieldLink RX2 27 "TreeHashes$Mix" "count" "J", Cond.fieldLink RX2 31 "TreeHashes$Mix" "length" "I", Cond.fieldLink RX2 35 "TreeHashes$Mix" "flags" "I", Cond.methodLink RX1 89 yX2_run]
def wsX1_closeBlock_r2 : List Cond := [Cond.instanceMethod yX2_run, Cond.selects RX2 yX2_run yX2_run, Cond.code yX2_run cX2_run 2 none, Cond.fieldLink RX2 21 "TreeHashes$Mix" "w" "[I", Cond.fieldLink RX2 18 "TreeHashes$Mix" "v" "[I", Cond.methodLink RX2 66 yX2_fillIn, Cond.instanceMethod yX2_fillIn, Cond.selects RX2 yX2_fillIn yX2_fillIn, Cond.code yX2_fillIn cX2_fillIn 2 none, Cond.fieldLink RX2 76 "TreeHashes$Mix" "START" "[I", Cond.methodLink RX2 69 yX2_turn, Cond.instanceMethod yX2_turn, Cond.selects RX2 yX2_turn yX2_turn, Cond.code yX2_turn cX2_turn 11 none, Cond.methodLink RX2 73 yX2_reorder, Cond.instanceMethod yX2_reorder, Cond.selects RX2 yX2_reorder yX2_reorder, Cond.code yX2_reorder cX2_reorder 2 none, Cond.fieldLink RX2 24 "TreeHashes$Mix" "nextW" "[I", Cond.fieldLink RX2 79 "TreeHashes$Mix" "ORDER" "[I", Cond.methodLink RX1 100 yX2_writeChain, Cond.instanceMethod yX2_writeChain, Cond.selects RX2 yX2_writeChain yX2_writeChain, Cond.code yX2_writeChain cX2_writeChain 4 none]
def wsX1_closeBlock_r3 : List Cond := [Cond.methodLink RX1 104 yX1_startBlock, Cond.instanceMethod yX1_startBlock, Cond.selects RX1 yX1_startBlock yX1_startBlock, Cond.code yX1_startBlock cX1_startBlock 2 none]
def wsX1_closeBlock : List Cond := .code yX1_closeBlock cX1_closeBlock 1 none :: ((wsX1_closeBlock_r1 ++ (wsX1_closeBlock_r2 ++ wsX1_closeBlock_r3)) ++ wsX10 ++ wsX20)
def wsX1_absorbByte_r1 : List Cond := [Cond.fieldLink RX1 67 "TreeHashes$Hasher" "inBlock" "I", Cond.fieldLink RX1 64 "TreeHashes$Hasher" "blocks" "I", Cond.fieldLink RX1 28 "TreeHashes$Hasher" "block" "[I", Cond.fieldLink RX1 52 "TreeHashes$Hasher" "taken" "I", Cond.methodLink RX1 80 yX1_closeChunk, Cond.instanceMethod yX1_closeChunk, Cond.selects RX1 yX1_closeChunk yX1_closeChunk, Cond.initialized RX1, Cond.code yX1_closeChunk cX1_closeChunk 2 none, Cond.fieldLink RX1 14 "TreeHashes$Hasher" "mix" "LTreeHashes$Mix;", Cond.fieldLink RX1 55 "TreeHashes$Hasher" "closed" "I", Cond.fieldLink RX1 58 "TreeHashes$Hasher" "depth" "I", Cond.fieldLink RX1 22 "TreeHashes$Hasher" "stack" "[I", Cond.fieldLink RX1 18 "TreeHashes$Hasher" "key" "[I", Cond.fieldLink RX1 46 "TreeHashes$Hasher" "base" "I", Cond.methodLink RX1 86 yX1_prepareBlock, Cond.instanceMethod yX1_prepareBlock, Cond.selects RX1 yX1_prepareBlock yX1_prepareBlock, Cond.code yX1_prepareBlock cX1_prepareBlock 3 none, Cond.fieldLink RX1 25 "TreeHashes$Hasher" "chunkChain" "[I", Cond.fieldLink RX1 49 "TreeHashes$Hasher" "firstChunk" "I", Cond.methodLink RX1 96 yX2_prepare, Cond.instanceMethod yX2_prepare, Cond.selects RX2 yX2_prepare yX2_prepare]
def wsX1_absorbByte_r2 : List Cond := [Cond.initialized RX2, Cond.code yX2_prepare cX2_prepare 8 none, Cond.fieldLink RX2 9 "TreeHashes$Mix" "chain" "[I", Cond.fieldLink RX2 15 "TreeHashes$Mix" "block" "[I", Cond.fieldLink RX2 27 "TreeHashes$Mix" "count" "J", Cond.fieldLink RX2 31 "TreeHashes$Mix" "length" "I", Cond.fieldLink RX2 35 "TreeHashes$Mix" "flags" "I", Cond.methodLink RX1 89 yX2_run, Cond.instanceMethod yX2_run, Cond.selects RX2 yX2_run yX2_run, Cond.code yX2_run cX2_run 2 none, Cond.fieldLink RX2 21 "TreeHashes$Mix" "w" "[I", Cond.fieldLink RX2 18 "TreeHashes$Mix" "v" "[I", Cond.methodLink RX2 66 yX2_fillIn, Cond.instanceMethod yX2_fillIn, Cond.selects RX2 yX2_fillIn yX2_fillIn, Cond.code yX2_fillIn cX2_fillIn 2 none, Cond.fieldLink RX2 76 "TreeHashes$Mix" "START" "[I", Cond.methodLink RX2 69 yX2_turn, Cond.instanceMethod yX2_turn, Cond.selects RX2 yX2_turn yX2_turn, Cond.code yX2_turn cX2_turn 11 none, Cond.methodLink RX2 73 yX2_reorder, Cond.instanceMethod yX2_reorder]
def wsX1_absorbByte_r3 : List Cond := [Cond.selects RX2 yX2_reorder yX2_reorder, Cond.code yX2_reorder cX2_reorder 2 none, Cond.fieldLink RX2 24 "TreeHashes$Mix" "nextW" "[I", Cond.fieldLink RX2 79 "TreeHashes$Mix" "ORDER" "[I", Cond.methodLink RX1 92 yX2_joinBehind, Cond.instanceMethod yX2_joinBehind, Cond.selects RX2 yX2_joinBehind yX2_joinBehind, Cond.code yX2_joinBehind cX2_joinBehind 6 none, Cond.methodLink RX2 38 yX2_prepare, Cond.methodLink RX1 100 yX2_writeChain, Cond.instanceMethod yX2_writeChain, Cond.selects RX2 yX2_writeChain yX2_writeChain, Cond.code yX2_writeChain cX2_writeChain 4 none, Cond.methodLink RX1 61 yX1_startChunk, Cond.instanceMethod yX1_startChunk, Cond.selects RX1 yX1_startChunk yX1_startChunk, Cond.code yX1_startChunk cX1_startChunk 1 none, Cond.methodLink RX1 38 yX1_copyWords, Cond.static yX1_copyWords, Cond.code yX1_copyWords cX1_copyWords 3 none, Cond.methodLink RX1 104 yX1_startBlock, Cond.instanceMethod yX1_startBlock, Cond.selects RX1 yX1_startBlock yX1_startBlock, Cond.code yX1_startBlock cX1_startBlock 2 none]
def wsX1_absorbByte_r4 : List Cond := [Cond.methodLink RX1 83 yX1_closeBlock, Cond.instanceMethod yX1_closeBlock, Cond.selects RX1 yX1_closeBlock yX1_closeBlock, Cond.code yX1_closeBlock cX1_closeBlock 1 none]
def wsX1_absorbByte : List Cond := .code yX1_absorbByte cX1_absorbByte 2 none :: ((wsX1_absorbByte_r1 ++ (wsX1_absorbByte_r2 ++ (wsX1_absorbByte_r3 ++ wsX1_absorbByte_r4))) ++ wsX10 ++ wsX20)
def wsX1_absorb_r1 : List Cond := [Cond.methodLink RX1 70 yX0_byteAt, Cond.instanceMethod yX0_byteAt, Cond.selects RX0 yX0_byteAt yX0_byteAt, Cond.initialized RX0, Cond.code yX0_byteAt cX0_byteAt 2 (some .int), Cond.fieldLink RX0 21 "TreeHashes$Bytes" "count" "I", Cond.fieldLink RX0 15 "TreeHashes$Bytes" "row" "[B", Cond.methodLink RX1 76 yX1_absorbByte, Cond.instanceMethod yX1_absorbByte, Cond.selects RX1 yX1_absorbByte yX1_absorbByte, Cond.initialized RX1, Cond.code yX1_absorbByte cX1_absorbByte 2 none, Cond.fieldLink RX1 67 "TreeHashes$Hasher" "inBlock" "I", Cond.fieldLink RX1 64 "TreeHashes$Hasher" "blocks" "I", Cond.fieldLink RX1 28 "TreeHashes$Hasher" "block" "[I", Cond.fieldLink RX1 52 "TreeHashes$Hasher" "taken" "I", Cond.methodLink RX1 80 yX1_closeChunk, Cond.instanceMethod yX1_closeChunk, Cond.selects RX1 yX1_closeChunk yX1_closeChunk, Cond.code yX1_closeChunk cX1_closeChunk 2 none, Cond.fieldLink RX1 14 "TreeHashes$Hasher" "mix" "LTreeHashes$Mix;", Cond.fieldLink RX1 55 "TreeHashes$Hasher" "closed" "I", Cond.fieldLink RX1 58 "TreeHashes$Hasher" "depth" "I", Cond.fieldLink RX1 22 "TreeHashes$Hasher" "stack" "[I"]
def wsX1_absorb_r2 : List Cond := [Cond.fieldLink RX1 18 "TreeHashes$Hasher" "key" "[I", Cond.fieldLink RX1 46 "TreeHashes$Hasher" "base" "I", Cond.methodLink RX1 86 yX1_prepareBlock, Cond.instanceMethod yX1_prepareBlock, Cond.selects RX1 yX1_prepareBlock yX1_prepareBlock, Cond.code yX1_prepareBlock cX1_prepareBlock 3 none, Cond.fieldLink RX1 25 "TreeHashes$Hasher" "chunkChain" "[I", Cond.fieldLink RX1 49 "TreeHashes$Hasher" "firstChunk" "I", Cond.methodLink RX1 96 yX2_prepare, Cond.instanceMethod yX2_prepare, Cond.selects RX2 yX2_prepare yX2_prepare, Cond.initialized RX2, Cond.code yX2_prepare cX2_prepare 8 none, Cond.fieldLink RX2 9 "TreeHashes$Mix" "chain" "[I", Cond.fieldLink RX2 15 "TreeHashes$Mix" "block" "[I", Cond.fieldLink RX2 27 "TreeHashes$Mix" "count" "J", Cond.fieldLink RX2 31 "TreeHashes$Mix" "length" "I", Cond.fieldLink RX2 35 "TreeHashes$Mix" "flags" "I", Cond.methodLink RX1 89 yX2_run, Cond.instanceMethod yX2_run, Cond.selects RX2 yX2_run yX2_run, Cond.code yX2_run cX2_run 2 none, Cond.fieldLink RX2 21 "TreeHashes$Mix" "w" "[I", Cond.fieldLink RX2 18 "TreeHashes$Mix" "v" "[I"]
def wsX1_absorb_r3 : List Cond := [Cond.methodLink RX2 66 yX2_fillIn, Cond.instanceMethod yX2_fillIn, Cond.selects RX2 yX2_fillIn yX2_fillIn, Cond.code yX2_fillIn cX2_fillIn 2 none, Cond.fieldLink RX2 76 "TreeHashes$Mix" "START" "[I", Cond.methodLink RX2 69 yX2_turn, Cond.instanceMethod yX2_turn, Cond.selects RX2 yX2_turn yX2_turn, Cond.code yX2_turn cX2_turn 11 none, Cond.methodLink RX2 73 yX2_reorder, Cond.instanceMethod yX2_reorder, Cond.selects RX2 yX2_reorder yX2_reorder, Cond.code yX2_reorder cX2_reorder 2 none, Cond.fieldLink RX2 24 "TreeHashes$Mix" "nextW" "[I", Cond.fieldLink RX2 79 "TreeHashes$Mix" "ORDER" "[I", Cond.methodLink RX1 92 yX2_joinBehind, Cond.instanceMethod yX2_joinBehind, Cond.selects RX2 yX2_joinBehind yX2_joinBehind, Cond.code yX2_joinBehind cX2_joinBehind 6 none, Cond.methodLink RX2 38 yX2_prepare, Cond.methodLink RX1 100 yX2_writeChain, Cond.instanceMethod yX2_writeChain, Cond.selects RX2 yX2_writeChain yX2_writeChain, Cond.code yX2_writeChain cX2_writeChain 4 none]
def wsX1_absorb_r4 : List Cond := [Cond.methodLink RX1 61 yX1_startChunk, Cond.instanceMethod yX1_startChunk, Cond.selects RX1 yX1_startChunk yX1_startChunk, Cond.code yX1_startChunk cX1_startChunk 1 none, Cond.methodLink RX1 38 yX1_copyWords, Cond.static yX1_copyWords, Cond.code yX1_copyWords cX1_copyWords 3 none, Cond.methodLink RX1 104 yX1_startBlock, Cond.instanceMethod yX1_startBlock, Cond.selects RX1 yX1_startBlock yX1_startBlock, Cond.code yX1_startBlock cX1_startBlock 2 none, Cond.methodLink RX1 83 yX1_closeBlock, Cond.instanceMethod yX1_closeBlock, Cond.selects RX1 yX1_closeBlock yX1_closeBlock, Cond.code yX1_closeBlock cX1_closeBlock 1 none]
def wsX1_absorb : List Cond := .code yX1_absorb cX1_absorb 5 none :: ((wsX1_absorb_r1 ++ (wsX1_absorb_r2 ++ (wsX1_absorb_r3 ++ wsX1_absorb_r4))) ++ wsX00 ++ wsX10 ++ wsX20)
def wsX1_inChunk : List Cond := .code yX1_inChunk cX1_inChunk 1 (some .int) :: ([.fieldLink RX1 64 "TreeHashes$Hasher" "blocks" "I", .fieldLink RX1 67 "TreeHashes$Hasher" "inBlock" "I"] ++ wsX10)
def wsX1_stackWord : List Cond := .code yX1_stackWord cX1_stackWord 3 (some .int) :: ([.fieldLink RX1 58 "TreeHashes$Hasher" "depth" "I", .fieldLink RX1 22 "TreeHashes$Hasher" "stack" "[I"] ++ wsX10)
def wsX1_prepareLast_r1 : List Cond := [Cond.fieldLink RX1 58 "TreeHashes$Hasher" "depth" "I", Cond.fieldLink RX1 14 "TreeHashes$Hasher" "mix" "LTreeHashes$Mix;", Cond.fieldLink RX1 22 "TreeHashes$Hasher" "stack" "[I", Cond.fieldLink RX1 18 "TreeHashes$Hasher" "key" "[I", Cond.fieldLink RX1 46 "TreeHashes$Hasher" "base" "I", Cond.methodLink RX1 86 yX1_prepareBlock, Cond.instanceMethod yX1_prepareBlock, Cond.selects RX1 yX1_prepareBlock yX1_prepareBlock, Cond.initialized RX1, Cond.code yX1_prepareBlock cX1_prepareBlock 3 none, Cond.fieldLink RX1 64 "TreeHashes$Hasher" "blocks" "I", Cond.fieldLink RX1 25 "TreeHashes$Hasher" "chunkChain" "[I", Cond.fieldLink RX1 28 "TreeHashes$Hasher" "block" "[I", Cond.fieldLink RX1 49 "TreeHashes$Hasher" "firstChunk" "I", Cond.fieldLink RX1 55 "TreeHashes$Hasher" "closed" "I", Cond.fieldLink RX1 67 "TreeHashes$Hasher" "inBlock" "I", Cond.methodLink RX1 96 yX2_prepare, Cond.instanceMethod yX2_prepare, Cond.selects RX2 yX2_prepare yX2_prepare, Cond.initialized RX2, Cond.code yX2_prepare cX2_prepare 8 none, Cond.fieldLink RX2 9 "TreeHashes$Mix" "chain" "[I", Cond.fieldLink RX2 15 "TreeHashes$Mix" "block" "[I", Cond.fieldLink RX2 27 "TreeHashes$Mix" "count" "J"]
def wsX1_prepareLast_r2 : List Cond := [Cond.fieldLink RX2 31 "TreeHashes$Mix" "length" "I", Cond.fieldLink RX2 35 "TreeHashes$Mix" "flags" "I", Cond.methodLink RX1 89 yX2_run, Cond.instanceMethod yX2_run, Cond.selects RX2 yX2_run yX2_run, Cond.code yX2_run cX2_run 2 none, Cond.fieldLink RX2 21 "TreeHashes$Mix" "w" "[I", Cond.fieldLink RX2 18 "TreeHashes$Mix" "v" "[I", Cond.methodLink RX2 66 yX2_fillIn, Cond.instanceMethod yX2_fillIn, Cond.selects RX2 yX2_fillIn yX2_fillIn, Cond.code yX2_fillIn cX2_fillIn 2 none, Cond.fieldLink RX2 76 "TreeHashes$Mix" "START" "[I", Cond.methodLink RX2 69 yX2_turn, Cond.instanceMethod yX2_turn, Cond.selects RX2 yX2_turn yX2_turn, Cond.code yX2_turn cX2_turn 11 none, Cond.methodLink RX2 73 yX2_reorder, Cond.instanceMethod yX2_reorder, Cond.selects RX2 yX2_reorder yX2_reorder, Cond.code yX2_reorder cX2_reorder 2 none, Cond.fieldLink RX2 24 "TreeHashes$Mix" "nextW" "[I", Cond.fieldLink RX2 79 "TreeHashes$Mix" "ORDER" "[I", Cond.methodLink RX1 92 yX2_joinBehind]
def wsX1_prepareLast_r3 : List Cond := [Cond.instanceMethod yX2_joinBehind, Cond.selects RX2 yX2_joinBehind yX2_joinBehind, Cond.code yX2_joinBehind cX2_joinBehind 6 none, Cond.methodLink RX2 38 yX2_prepare]
def wsX1_prepareLast : List Cond := .code yX1_prepareLast cX1_prepareLast 2 none :: ((wsX1_prepareLast_r1 ++ (wsX1_prepareLast_r2 ++ wsX1_prepareLast_r3)) ++ wsX10 ++ wsX20)
def wsX2_joinBefore : List Cond := .code yX2_joinBefore cX2_joinBefore 6 none :: ([.fieldLink RX2 15 "TreeHashes$Mix" "block" "[I", .fieldLink RX2 18 "TreeHashes$Mix" "v" "[I", .methodLink RX2 38 yX2_prepare, .instanceMethod yX2_prepare, .selects RX2 yX2_prepare yX2_prepare, .initialized RX2, .code yX2_prepare cX2_prepare 8 none, .fieldLink RX2 9 "TreeHashes$Mix" "chain" "[I", .fieldLink RX2 27 "TreeHashes$Mix" "count" "J", .fieldLink RX2 31 "TreeHashes$Mix" "length" "I", .fieldLink RX2 35 "TreeHashes$Mix" "flags" "I"] ++ wsX20)
def wsX2_makeRoot : List Cond := .code yX2_makeRoot cX2_makeRoot 1 none :: ([.fieldLink RX2 35 "TreeHashes$Mix" "flags" "I"] ++ wsX20)
def wsX2_outputByte : List Cond := .code yX2_outputByte cX2_outputByte 2 (some .int) :: ([.fieldLink RX2 18 "TreeHashes$Mix" "v" "[I"] ++ wsX20)
def wsX2_writeOutput_r1 : List Cond := [Cond.constantLong RX2 51 (63), Cond.fieldLink RX2 27 "TreeHashes$Mix" "count" "J", Cond.methodLink RX2 42 yX0_keepFirst, Cond.instanceMethod yX0_keepFirst, Cond.selects RX0 yX0_keepFirst yX0_keepFirst, Cond.initialized RX0, Cond.code yX0_keepFirst cX0_keepFirst 3 (some .int), Cond.fieldLink RX0 21 "TreeHashes$Bytes" "count" "I", Cond.methodLink RX2 48 yX2_makeRoot, Cond.instanceMethod yX2_makeRoot, Cond.selects RX2 yX2_makeRoot yX2_makeRoot, Cond.initialized RX2, Cond.code yX2_makeRoot cX2_makeRoot 1 none, Cond.fieldLink RX2 35 "TreeHashes$Mix" "flags" "I", Cond.methodLink RX2 53 yX2_run, Cond.instanceMethod yX2_run, Cond.selects RX2 yX2_run yX2_run, Cond.code yX2_run cX2_run 2 none, Cond.fieldLink RX2 21 "TreeHashes$Mix" "w" "[I", Cond.fieldLink RX2 18 "TreeHashes$Mix" "v" "[I", Cond.fieldLink RX2 9 "TreeHashes$Mix" "chain" "[I", Cond.methodLink RX2 66 yX2_fillIn, Cond.instanceMethod yX2_fillIn, Cond.selects RX2 yX2_fillIn yX2_fillIn]
def wsX2_writeOutput_r2 : List Cond := [Cond.code yX2_fillIn cX2_fillIn 2 none, Cond.fieldLink RX2 76 "TreeHashes$Mix" "START" "[I", Cond.fieldLink RX2 31 "TreeHashes$Mix" "length" "I", Cond.fieldLink RX2 15 "TreeHashes$Mix" "block" "[I", Cond.methodLink RX2 69 yX2_turn, Cond.instanceMethod yX2_turn, Cond.selects RX2 yX2_turn yX2_turn, Cond.code yX2_turn cX2_turn 11 none, Cond.methodLink RX2 73 yX2_reorder, Cond.instanceMethod yX2_reorder, Cond.selects RX2 yX2_reorder yX2_reorder, Cond.code yX2_reorder cX2_reorder 2 none, Cond.fieldLink RX2 24 "TreeHashes$Mix" "nextW" "[I", Cond.fieldLink RX2 79 "TreeHashes$Mix" "ORDER" "[I", Cond.methodLink RX2 56 yX2_outputByte, Cond.instanceMethod yX2_outputByte, Cond.selects RX2 yX2_outputByte yX2_outputByte, Cond.code yX2_outputByte cX2_outputByte 2 (some .int), Cond.methodLink RX2 59 yX0_append, Cond.instanceMethod yX0_append, Cond.selects RX0 yX0_append yX0_append, Cond.code yX0_append cX0_append 2 none, Cond.fieldLink RX0 15 "TreeHashes$Bytes" "row" "[B"]
def wsX2_writeOutput : List Cond := .code yX2_writeOutput cX2_writeOutput 7 none :: ((wsX2_writeOutput_r1 ++ wsX2_writeOutput_r2) ++ wsX20 ++ wsX00)
def wsX2_rootBeginsWith_r1 : List Cond := [Cond.methodLink RX2 48 yX2_makeRoot, Cond.instanceMethod yX2_makeRoot, Cond.selects RX2 yX2_makeRoot yX2_makeRoot, Cond.initialized RX2, Cond.code yX2_makeRoot cX2_makeRoot 1 none, Cond.fieldLink RX2 35 "TreeHashes$Mix" "flags" "I", Cond.methodLink RX2 53 yX2_run, Cond.instanceMethod yX2_run, Cond.selects RX2 yX2_run yX2_run, Cond.code yX2_run cX2_run 2 none, Cond.fieldLink RX2 21 "TreeHashes$Mix" "w" "[I", Cond.fieldLink RX2 18 "TreeHashes$Mix" "v" "[I", Cond.fieldLink RX2 9 "TreeHashes$Mix" "chain" "[I", Cond.methodLink RX2 66 yX2_fillIn, Cond.instanceMethod yX2_fillIn, Cond.selects RX2 yX2_fillIn yX2_fillIn, Cond.code yX2_fillIn cX2_fillIn 2 none, Cond.fieldLink RX2 76 "TreeHashes$Mix" "START" "[I", Cond.fieldLink RX2 27 "TreeHashes$Mix" "count" "J", Cond.fieldLink RX2 31 "TreeHashes$Mix" "length" "I", Cond.fieldLink RX2 15 "TreeHashes$Mix" "block" "[I", Cond.methodLink RX2 69 yX2_turn, Cond.instanceMethod yX2_turn, Cond.selects RX2 yX2_turn yX2_turn]
def wsX2_rootBeginsWith_r2 : List Cond := [Cond.code yX2_turn cX2_turn 11 none, Cond.methodLink RX2 73 yX2_reorder, Cond.instanceMethod yX2_reorder, Cond.selects RX2 yX2_reorder yX2_reorder, Cond.code yX2_reorder cX2_reorder 2 none, Cond.fieldLink RX2 24 "TreeHashes$Mix" "nextW" "[I", Cond.fieldLink RX2 79 "TreeHashes$Mix" "ORDER" "[I", Cond.methodLink RX2 56 yX2_outputByte, Cond.instanceMethod yX2_outputByte, Cond.selects RX2 yX2_outputByte yX2_outputByte, Cond.code yX2_outputByte cX2_outputByte 2 (some .int), Cond.methodLink RX2 63 yX0_byteAt, Cond.instanceMethod yX0_byteAt, Cond.selects RX0 yX0_byteAt yX0_byteAt, Cond.initialized RX0, Cond.code yX0_byteAt cX0_byteAt 2 (some .int), Cond.fieldLink RX0 21 "TreeHashes$Bytes" "count" "I", Cond.fieldLink RX0 15 "TreeHashes$Bytes" "row" "[B"]
def wsX2_rootBeginsWith : List Cond := .code yX2_rootBeginsWith cX2_rootBeginsWith 3 (some .boolean) :: ((wsX2_rootBeginsWith_r1 ++ wsX2_rootBeginsWith_r2) ++ wsX20 ++ wsX00)
def wsX3_init : List Cond := .code yX3_init cX3_init 1 none :: ([.methodLink RX3 1 objectInit, .instanceMethod objectInit, .code objectInit ⟨#[0xb1]⟩ 1 none, .arrayClass .int, .fieldLink RX3 9 "TreeHashes$Way" "otherFirst" "[I", .fieldLink RX3 13 "TreeHashes$Way" "otherChunks" "[I"] ++ wsX30)
def wsX3_leftOf : List Cond := .code yX3_leftOf cX3_leftOf 3 (some .int) :: ([])
def wsX3_lead : List Cond := .code yX3_lead cX3_lead 6 none :: ([.fieldLink RX3 16 "TreeHashes$Way" "levels" "I", .fieldLink RX3 9 "TreeHashes$Way" "otherFirst" "[I", .fieldLink RX3 13 "TreeHashes$Way" "otherChunks" "[I", .methodLink RX3 20 yX3_leftOf, .static yX3_leftOf, .initialized RX3, .code yX3_leftOf cX3_leftOf 3 (some .int)] ++ wsX30)
def wsX4_init_r1 : List Cond := [Cond.methodLink RX4 3 objectInit, Cond.instanceMethod objectInit, Cond.code objectInit ⟨#[0xb1]⟩ 1 none, Cond.classLink RX4 9 RX0, Cond.fieldLink RX4 11 "TreeHashes" "registers" "[LTreeHashes$Bytes;", Cond.classLink RX4 15 RX1, Cond.fieldLink RX4 17 "TreeHashes" "hashers" "[LTreeHashes$Hasher;", Cond.instantiable RX0 2, Cond.initialized RX0, Cond.fieldLink RX4 24 "TreeHashes" "file" "LTreeHashes$Bytes;", Cond.fieldLink RX4 28 "TreeHashes" "proven" "LTreeHashes$Bytes;", Cond.instantiable RX1 13, Cond.initialized RX1, Cond.fieldLink RX4 32 "TreeHashes" "worker" "LTreeHashes$Hasher;", Cond.classLink RX4 36 RX3, Cond.instantiable RX3 3, Cond.initialized RX3, Cond.fieldLink RX4 39 "TreeHashes" "way" "LTreeHashes$Way;", Cond.arrayClass .int, Cond.fieldLink RX4 43 "TreeHashes" "words" "[I", Cond.methodLink RX4 21 yX0_init, Cond.instanceMethod yX0_init, Cond.code yX0_init cX0_init 2 none, Cond.methodLink RX0 3 objectInit]
def wsX4_init_r2 : List Cond := [Cond.methodLink RX0 9 Lib.Math.max.name, Cond.static Lib.Math.max.name, Cond.initialized "java/lang/Math", Cond.code Lib.Math.max.name Lib.Math.max.code 2 (some .int), Cond.arrayClass .byte, Cond.fieldLink RX0 15 "TreeHashes$Bytes" "row" "[B", Cond.methodLink RX4 31 yX1_init, Cond.instanceMethod yX1_init, Cond.code yX1_init cX1_init 1 none, Cond.methodLink RX1 5 objectInit, Cond.classLink RX1 11 RX2, Cond.instantiable RX2 8, Cond.initialized RX2, Cond.fieldLink RX1 14 "TreeHashes$Hasher" "mix" "LTreeHashes$Mix;", Cond.fieldLink RX1 18 "TreeHashes$Hasher" "key" "[I", Cond.fieldLink RX1 22 "TreeHashes$Hasher" "stack" "[I", Cond.fieldLink RX1 25 "TreeHashes$Hasher" "chunkChain" "[I", Cond.fieldLink RX1 28 "TreeHashes$Hasher" "block" "[I", Cond.fieldLink RX1 31 "TreeHashes$Mix" "START" "[I", Cond.instanceMethod yX2_init, Cond.code yX2_init cX2_init 1 none, Cond.methodLink RX2 3 objectInit, Cond.fieldLink RX2 9 "TreeHashes$Mix" "chain" "[I", Cond.fieldLink RX2 15 "TreeHashes$Mix" "block" "[I"]
def wsX4_init_r3 : List Cond := [Cond.fieldLink RX2 18 "TreeHashes$Mix" "v" "[I", Cond.fieldLink RX2 21 "TreeHashes$Mix" "w" "[I", Cond.fieldLink RX2 24 "TreeHashes$Mix" "nextW" "[I", Cond.methodLink RX1 34 yX1_restart, Cond.instanceMethod yX1_restart, Cond.selects RX1 yX1_restart yX1_restart, Cond.code yX1_restart cX1_restart 5 none, Cond.fieldLink RX1 42 "TreeHashes$Hasher" "mode" "I", Cond.fieldLink RX1 46 "TreeHashes$Hasher" "base" "I", Cond.fieldLink RX1 49 "TreeHashes$Hasher" "firstChunk" "I", Cond.fieldLink RX1 52 "TreeHashes$Hasher" "taken" "I", Cond.fieldLink RX1 55 "TreeHashes$Hasher" "closed" "I", Cond.fieldLink RX1 58 "TreeHashes$Hasher" "depth" "I", Cond.methodLink RX1 38 yX1_copyWords, Cond.static yX1_copyWords, Cond.code yX1_copyWords cX1_copyWords 3 none, Cond.methodLink RX1 61 yX1_startChunk, Cond.instanceMethod yX1_startChunk, Cond.selects RX1 yX1_startChunk yX1_startChunk, Cond.code yX1_startChunk cX1_startChunk 1 none, Cond.fieldLink RX1 64 "TreeHashes$Hasher" "blocks" "I", Cond.methodLink RX1 104 yX1_startBlock, Cond.instanceMethod yX1_startBlock, Cond.selects RX1 yX1_startBlock yX1_startBlock]
def wsX4_init_r4 : List Cond := [Cond.code yX1_startBlock cX1_startBlock 2 none, Cond.fieldLink RX1 67 "TreeHashes$Hasher" "inBlock" "I", Cond.instanceMethod yX3_init, Cond.code yX3_init cX3_init 1 none, Cond.methodLink RX3 1 objectInit, Cond.fieldLink RX3 9 "TreeHashes$Way" "otherFirst" "[I", Cond.fieldLink RX3 13 "TreeHashes$Way" "otherChunks" "[I"]
def wsX4_init : List Cond := .code yX4_init cX4_init 2 none :: ((wsX4_init_r1 ++ (wsX4_init_r2 ++ (wsX4_init_r3 ++ wsX4_init_r4))) ++ wsX40 ++ wsX00 ++ wsX10 ++ wsX30 ++ wsX20)
def wsX4_isRegister : List Cond := .code yX4_isRegister cX4_isRegister 1 (some .boolean) :: ([])
def wsX4_add : List Cond := .code yX4_add cX4_add 6 (some .int) :: ([.fieldLink RX4 11 "TreeHashes" "registers" "[LTreeHashes$Bytes;", .methodLink RX4 47 yX4_isRegister, .static yX4_isRegister, .initialized RX4, .code yX4_isRegister cX4_isRegister 1 (some .boolean), .methodLink RX4 51 yX0_hasRoomFor, .instanceMethod yX0_hasRoomFor, .selects RX0 yX0_hasRoomFor yX0_hasRoomFor, .initialized RX0, .code yX0_hasRoomFor cX0_hasRoomFor 2 (some .boolean), .fieldLink RX0 15 "TreeHashes$Bytes" "row" "[B", .fieldLink RX0 21 "TreeHashes$Bytes" "count" "I", .methodLink RX4 54 yX0_append, .instanceMethod yX0_append, .selects RX0 yX0_append yX0_append, .code yX0_append cX0_append 2 none] ++ wsX40 ++ wsX00)
def wsX4_clear : List Cond := .code yX4_clear cX4_clear 2 (some .int) :: ([.fieldLink RX4 11 "TreeHashes" "registers" "[LTreeHashes$Bytes;", .methodLink RX4 47 yX4_isRegister, .static yX4_isRegister, .initialized RX4, .code yX4_isRegister cX4_isRegister 1 (some .boolean), .methodLink RX4 61 yX0_keepFirst, .instanceMethod yX0_keepFirst, .selects RX0 yX0_keepFirst yX0_keepFirst, .initialized RX0, .code yX0_keepFirst cX0_keepFirst 3 (some .int), .fieldLink RX0 21 "TreeHashes$Bytes" "count" "I"] ++ wsX40 ++ wsX00)
def wsX4_size : List Cond := .code yX4_size cX4_size 2 (some .int) :: ([.fieldLink RX4 11 "TreeHashes" "registers" "[LTreeHashes$Bytes;", .methodLink RX4 47 yX4_isRegister, .static yX4_isRegister, .initialized RX4, .code yX4_isRegister cX4_isRegister 1 (some .boolean)] ++ wsX40 ++ wsX00)
def wsX4_at : List Cond := .code yX4_at cX4_at 3 (some .int) :: ([.fieldLink RX4 11 "TreeHashes" "registers" "[LTreeHashes$Bytes;", .methodLink RX4 47 yX4_isRegister, .static yX4_isRegister, .initialized RX4, .code yX4_isRegister cX4_isRegister 1 (some .boolean), .methodLink RX4 65 yX0_byteAt, .instanceMethod yX0_byteAt, .selects RX0 yX0_byteAt yX0_byteAt, .initialized RX0, .code yX0_byteAt cX0_byteAt 2 (some .int), .fieldLink RX0 21 "TreeHashes$Bytes" "count" "I", .fieldLink RX0 15 "TreeHashes$Bytes" "row" "[B"] ++ wsX40 ++ wsX00)
def wsX4_isHasher : List Cond := .code yX4_isHasher cX4_isHasher 1 (some .boolean) :: ([])
def wsX4_deriveKey_r1 : List Cond := [Cond.fieldLink RX4 32 "TreeHashes" "worker" "LTreeHashes$Hasher;", Cond.fieldLink RX4 71 "TreeHashes$Mix" "START" "[I", Cond.fieldLink RX4 43 "TreeHashes" "words" "[I", Cond.methodLink RX4 76 yX1_restart, Cond.instanceMethod yX1_restart, Cond.selects RX1 yX1_restart yX1_restart, Cond.initialized RX1, Cond.code yX1_restart cX1_restart 5 none, Cond.fieldLink RX1 18 "TreeHashes$Hasher" "key" "[I", Cond.fieldLink RX1 42 "TreeHashes$Hasher" "mode" "I", Cond.fieldLink RX1 46 "TreeHashes$Hasher" "base" "I", Cond.fieldLink RX1 49 "TreeHashes$Hasher" "firstChunk" "I", Cond.fieldLink RX1 52 "TreeHashes$Hasher" "taken" "I", Cond.fieldLink RX1 55 "TreeHashes$Hasher" "closed" "I", Cond.fieldLink RX1 58 "TreeHashes$Hasher" "depth" "I", Cond.methodLink RX1 38 yX1_copyWords, Cond.static yX1_copyWords, Cond.code yX1_copyWords cX1_copyWords 3 none, Cond.methodLink RX1 61 yX1_startChunk, Cond.instanceMethod yX1_startChunk, Cond.selects RX1 yX1_startChunk yX1_startChunk, Cond.code yX1_startChunk cX1_startChunk 1 none, Cond.fieldLink RX1 25 "TreeHashes$Hasher" "chunkChain" "[I", Cond.fieldLink RX1 64 "TreeHashes$Hasher" "blocks" "I"]
def wsX4_deriveKey_r2 : List Cond := [Cond.methodLink RX1 104 yX1_startBlock, Cond.instanceMethod yX1_startBlock, Cond.selects RX1 yX1_startBlock yX1_startBlock, Cond.code yX1_startBlock cX1_startBlock 2 none, Cond.fieldLink RX1 28 "TreeHashes$Hasher" "block" "[I", Cond.fieldLink RX1 67 "TreeHashes$Hasher" "inBlock" "I", Cond.methodLink RX4 92 yX1_absorb, Cond.instanceMethod yX1_absorb, Cond.selects RX1 yX1_absorb yX1_absorb, Cond.code yX1_absorb cX1_absorb 5 none, Cond.methodLink RX1 70 yX0_byteAt, Cond.instanceMethod yX0_byteAt, Cond.selects RX0 yX0_byteAt yX0_byteAt, Cond.initialized RX0, Cond.code yX0_byteAt cX0_byteAt 2 (some .int), Cond.fieldLink RX0 21 "TreeHashes$Bytes" "count" "I", Cond.fieldLink RX0 15 "TreeHashes$Bytes" "row" "[B", Cond.methodLink RX1 76 yX1_absorbByte, Cond.instanceMethod yX1_absorbByte, Cond.selects RX1 yX1_absorbByte yX1_absorbByte, Cond.code yX1_absorbByte cX1_absorbByte 2 none, Cond.methodLink RX1 80 yX1_closeChunk, Cond.instanceMethod yX1_closeChunk, Cond.selects RX1 yX1_closeChunk yX1_closeChunk]
def wsX4_deriveKey_r3 : List Cond := [Cond.code yX1_closeChunk cX1_closeChunk 2 none, Cond.fieldLink RX1 14 "TreeHashes$Hasher" "mix" "LTreeHashes$Mix;", Cond.fieldLink RX1 22 "TreeHashes$Hasher" "stack" "[I", Cond.methodLink RX1 86 yX1_prepareBlock, Cond.instanceMethod yX1_prepareBlock, Cond.selects RX1 yX1_prepareBlock yX1_prepareBlock, Cond.code yX1_prepareBlock cX1_prepareBlock 3 none, Cond.methodLink RX1 96 yX2_prepare, Cond.instanceMethod yX2_prepare, Cond.selects RX2 yX2_prepare yX2_prepare, Cond.initialized RX2, Cond.code yX2_prepare cX2_prepare 8 none, Cond.fieldLink RX2 9 "TreeHashes$Mix" "chain" "[I", Cond.fieldLink RX2 15 "TreeHashes$Mix" "block" "[I", Cond.fieldLink RX2 27 "TreeHashes$Mix" "count" "J", Cond.fieldLink RX2 31 "TreeHashes$Mix" "length" "I", Cond.fieldLink RX2 35 "TreeHashes$Mix" "flags" "I", Cond.methodLink RX1 89 yX2_run, Cond.instanceMethod yX2_run, Cond.selects RX2 yX2_run yX2_run, Cond.code yX2_run cX2_run 2 none, Cond.fieldLink RX2 21 "TreeHashes$Mix" "w" "[I", Cond.fieldLink RX2 18 "TreeHashes$Mix" "v" "[I", Cond.methodLink RX2 66 yX2_fillIn]
def wsX4_deriveKey_r4 : List Cond := [Cond.instanceMethod yX2_fillIn, Cond.selects RX2 yX2_fillIn yX2_fillIn, Cond.code yX2_fillIn cX2_fillIn 2 none, Cond.fieldLink RX2 76 "TreeHashes$Mix" "START" "[I", Cond.methodLink RX2 69 yX2_turn, Cond.instanceMethod yX2_turn, Cond.selects RX2 yX2_turn yX2_turn, Cond.code yX2_turn cX2_turn 11 none, Cond.methodLink RX2 73 yX2_reorder, Cond.instanceMethod yX2_reorder, Cond.selects RX2 yX2_reorder yX2_reorder, Cond.code yX2_reorder cX2_reorder 2 none, Cond.fieldLink RX2 24 "TreeHashes$Mix" "nextW" "[I", Cond.fieldLink RX2 79 "TreeHashes$Mix" "ORDER" "[I", Cond.methodLink RX1 92 yX2_joinBehind, Cond.instanceMethod yX2_joinBehind, Cond.selects RX2 yX2_joinBehind yX2_joinBehind, Cond.code yX2_joinBehind cX2_joinBehind 6 none, Cond.methodLink RX2 38 yX2_prepare, Cond.methodLink RX1 100 yX2_writeChain, Cond.instanceMethod yX2_writeChain, Cond.selects RX2 yX2_writeChain yX2_writeChain, Cond.code yX2_writeChain cX2_writeChain 4 none, Cond.methodLink RX1 83 yX1_closeBlock]
def wsX4_deriveKey_r5 : List Cond := [Cond.instanceMethod yX1_closeBlock, Cond.selects RX1 yX1_closeBlock yX1_closeBlock, Cond.code yX1_closeBlock cX1_closeBlock 1 none, Cond.methodLink RX4 101 yX1_prepareLast, Cond.instanceMethod yX1_prepareLast, Cond.selects RX1 yX1_prepareLast yX1_prepareLast, Cond.code yX1_prepareLast cX1_prepareLast 2 none, Cond.methodLink RX4 190 yX2_makeRoot, Cond.instanceMethod yX2_makeRoot, Cond.selects RX2 yX2_makeRoot yX2_makeRoot, Cond.code yX2_makeRoot cX2_makeRoot 1 none, Cond.methodLink RX4 171 yX2_run, Cond.methodLink RX4 174 yX2_writeChain]
def wsX4_deriveKey : List Cond := .code yX4_deriveKey cX4_deriveKey 2 none :: ((wsX4_deriveKey_r1 ++ (wsX4_deriveKey_r2 ++ (wsX4_deriveKey_r3 ++ (wsX4_deriveKey_r4 ++ wsX4_deriveKey_r5)))) ++ wsX40 ++ wsX00 ++ wsX10 ++ wsX20)
def wsX4_begin_r1 : List Cond := [Cond.fieldLink RX4 17 "TreeHashes" "hashers" "[LTreeHashes$Hasher;", Cond.fieldLink RX4 71 "TreeHashes$Mix" "START" "[I", Cond.fieldLink RX4 11 "TreeHashes" "registers" "[LTreeHashes$Bytes;", Cond.fieldLink RX4 43 "TreeHashes" "words" "[I", Cond.methodLink RX4 68 yX4_isHasher, Cond.static yX4_isHasher, Cond.initialized RX4, Cond.code yX4_isHasher cX4_isHasher 1 (some .boolean), Cond.methodLink RX4 76 yX1_restart, Cond.instanceMethod yX1_restart, Cond.selects RX1 yX1_restart yX1_restart, Cond.initialized RX1, Cond.code yX1_restart cX1_restart 5 none, Cond.fieldLink RX1 18 "TreeHashes$Hasher" "key" "[I", Cond.fieldLink RX1 42 "TreeHashes$Hasher" "mode" "I", Cond.fieldLink RX1 46 "TreeHashes$Hasher" "base" "I", Cond.fieldLink RX1 49 "TreeHashes$Hasher" "firstChunk" "I", Cond.fieldLink RX1 52 "TreeHashes$Hasher" "taken" "I", Cond.fieldLink RX1 55 "TreeHashes$Hasher" "closed" "I", Cond.fieldLink RX1 58 "TreeHashes$Hasher" "depth" "I", Cond.methodLink RX1 38 yX1_copyWords, Cond.static yX1_copyWords, Cond.code yX1_copyWords cX1_copyWords 3 none, Cond.methodLink RX1 61 yX1_startChunk]
def wsX4_begin_r2 : List Cond := [Cond.instanceMethod yX1_startChunk, Cond.selects RX1 yX1_startChunk yX1_startChunk, Cond.code yX1_startChunk cX1_startChunk 1 none, Cond.fieldLink RX1 25 "TreeHashes$Hasher" "chunkChain" "[I", Cond.fieldLink RX1 64 "TreeHashes$Hasher" "blocks" "I", Cond.methodLink RX1 104 yX1_startBlock, Cond.instanceMethod yX1_startBlock, Cond.selects RX1 yX1_startBlock yX1_startBlock, Cond.code yX1_startBlock cX1_startBlock 2 none, Cond.fieldLink RX1 28 "TreeHashes$Hasher" "block" "[I", Cond.fieldLink RX1 67 "TreeHashes$Hasher" "inBlock" "I", Cond.methodLink RX4 47 yX4_isRegister, Cond.static yX4_isRegister, Cond.code yX4_isRegister cX4_isRegister 1 (some .boolean), Cond.methodLink RX4 80 yX0_readChain, Cond.instanceMethod yX0_readChain, Cond.selects RX0 yX0_readChain yX0_readChain, Cond.initialized RX0, Cond.code yX0_readChain cX0_readChain 4 none, Cond.methodLink RX0 33 yX0_wordAt, Cond.instanceMethod yX0_wordAt, Cond.selects RX0 yX0_wordAt yX0_wordAt, Cond.code yX0_wordAt cX0_wordAt 2 (some .int), Cond.methodLink RX0 29 yX0_byteAt]
def wsX4_begin_r3 : List Cond := [Cond.instanceMethod yX0_byteAt, Cond.selects RX0 yX0_byteAt yX0_byteAt, Cond.code yX0_byteAt cX0_byteAt 2 (some .int), Cond.fieldLink RX0 21 "TreeHashes$Bytes" "count" "I", Cond.fieldLink RX0 15 "TreeHashes$Bytes" "row" "[B", Cond.methodLink RX4 84 yX4_deriveKey, Cond.instanceMethod yX4_deriveKey, Cond.selects RX4 yX4_deriveKey yX4_deriveKey, Cond.code yX4_deriveKey cX4_deriveKey 2 none, Cond.fieldLink RX4 32 "TreeHashes" "worker" "LTreeHashes$Hasher;", Cond.methodLink RX4 92 yX1_absorb, Cond.instanceMethod yX1_absorb, Cond.selects RX1 yX1_absorb yX1_absorb, Cond.code yX1_absorb cX1_absorb 5 none, Cond.methodLink RX1 70 yX0_byteAt, Cond.methodLink RX1 76 yX1_absorbByte, Cond.instanceMethod yX1_absorbByte, Cond.selects RX1 yX1_absorbByte yX1_absorbByte, Cond.code yX1_absorbByte cX1_absorbByte 2 none, Cond.methodLink RX1 80 yX1_closeChunk, Cond.instanceMethod yX1_closeChunk, Cond.selects RX1 yX1_closeChunk yX1_closeChunk, Cond.code yX1_closeChunk cX1_closeChunk 2 none, Cond.fieldLink RX1 14 "TreeHashes$Hasher" "mix" "LTreeHashes$Mix;"]
def wsX4_begin_r4 : List Cond := [Cond.fieldLink RX1 22 "TreeHashes$Hasher" "stack" "[I", Cond.methodLink RX1 86 yX1_prepareBlock, Cond.instanceMethod yX1_prepareBlock, Cond.selects RX1 yX1_prepareBlock yX1_prepareBlock, Cond.code yX1_prepareBlock cX1_prepareBlock 3 none, Cond.methodLink RX1 96 yX2_prepare, Cond.instanceMethod yX2_prepare, Cond.selects RX2 yX2_prepare yX2_prepare, Cond.initialized RX2, Cond.code yX2_prepare cX2_prepare 8 none, Cond.fieldLink RX2 9 "TreeHashes$Mix" "chain" "[I", Cond.fieldLink RX2 15 "TreeHashes$Mix" "block" "[I", Cond.fieldLink RX2 27 "TreeHashes$Mix" "count" "J", Cond.fieldLink RX2 31 "TreeHashes$Mix" "length" "I", Cond.fieldLink RX2 35 "TreeHashes$Mix" "flags" "I", Cond.methodLink RX1 89 yX2_run, Cond.instanceMethod yX2_run, Cond.selects RX2 yX2_run yX2_run, Cond.code yX2_run cX2_run 2 none, Cond.fieldLink RX2 21 "TreeHashes$Mix" "w" "[I", Cond.fieldLink RX2 18 "TreeHashes$Mix" "v" "[I", Cond.methodLink RX2 66 yX2_fillIn, Cond.instanceMethod yX2_fillIn, Cond.selects RX2 yX2_fillIn yX2_fillIn]
def wsX4_begin_r5 : List Cond := [Cond.code yX2_fillIn cX2_fillIn 2 none, Cond.fieldLink RX2 76 "TreeHashes$Mix" "START" "[I", Cond.methodLink RX2 69 yX2_turn, Cond.instanceMethod yX2_turn, Cond.selects RX2 yX2_turn yX2_turn, Cond.code yX2_turn cX2_turn 11 none, Cond.methodLink RX2 73 yX2_reorder, Cond.instanceMethod yX2_reorder, Cond.selects RX2 yX2_reorder yX2_reorder, Cond.code yX2_reorder cX2_reorder 2 none, Cond.fieldLink RX2 24 "TreeHashes$Mix" "nextW" "[I", Cond.fieldLink RX2 79 "TreeHashes$Mix" "ORDER" "[I", Cond.methodLink RX1 92 yX2_joinBehind, Cond.instanceMethod yX2_joinBehind, Cond.selects RX2 yX2_joinBehind yX2_joinBehind, Cond.code yX2_joinBehind cX2_joinBehind 6 none, Cond.methodLink RX2 38 yX2_prepare, Cond.methodLink RX1 100 yX2_writeChain, Cond.instanceMethod yX2_writeChain, Cond.selects RX2 yX2_writeChain yX2_writeChain, Cond.code yX2_writeChain cX2_writeChain 4 none, Cond.methodLink RX1 83 yX1_closeBlock, Cond.instanceMethod yX1_closeBlock, Cond.selects RX1 yX1_closeBlock yX1_closeBlock]
def wsX4_begin_r6 : List Cond := [Cond.code yX1_closeBlock cX1_closeBlock 1 none, Cond.methodLink RX4 101 yX1_prepareLast, Cond.instanceMethod yX1_prepareLast, Cond.selects RX1 yX1_prepareLast yX1_prepareLast, Cond.code yX1_prepareLast cX1_prepareLast 2 none, Cond.methodLink RX4 190 yX2_makeRoot, Cond.instanceMethod yX2_makeRoot, Cond.selects RX2 yX2_makeRoot yX2_makeRoot, Cond.code yX2_makeRoot cX2_makeRoot 1 none, Cond.methodLink RX4 171 yX2_run, Cond.methodLink RX4 174 yX2_writeChain]
def wsX4_begin : List Cond := .code yX4_begin cX4_begin 4 (some .int) :: ((wsX4_begin_r1 ++ (wsX4_begin_r2 ++ (wsX4_begin_r3 ++ (wsX4_begin_r4 ++ (wsX4_begin_r5 ++ wsX4_begin_r6))))) ++ wsX40 ++ wsX00 ++ wsX10 ++ wsX20)
def wsX4_take_r1 : List Cond := [Cond.fieldLink RX4 11 "TreeHashes" "registers" "[LTreeHashes$Bytes;", Cond.constant RX4 88 (40000), Cond.fieldLink RX4 17 "TreeHashes" "hashers" "[LTreeHashes$Hasher;", Cond.methodLink RX4 68 yX4_isHasher, Cond.static yX4_isHasher, Cond.initialized RX4, Cond.code yX4_isHasher cX4_isHasher 1 (some .boolean), Cond.methodLink RX4 47 yX4_isRegister, Cond.static yX4_isRegister, Cond.code yX4_isRegister cX4_isRegister 1 (some .boolean), Cond.methodLink RX4 92 yX1_absorb, Cond.instanceMethod yX1_absorb, Cond.selects RX1 yX1_absorb yX1_absorb, Cond.initialized RX1, Cond.code yX1_absorb cX1_absorb 5 none, Cond.methodLink RX1 70 yX0_byteAt, Cond.instanceMethod yX0_byteAt, Cond.selects RX0 yX0_byteAt yX0_byteAt, Cond.initialized RX0, Cond.code yX0_byteAt cX0_byteAt 2 (some .int), Cond.fieldLink RX0 21 "TreeHashes$Bytes" "count" "I", Cond.fieldLink RX0 15 "TreeHashes$Bytes" "row" "[B", Cond.methodLink RX1 76 yX1_absorbByte, Cond.instanceMethod yX1_absorbByte]
def wsX4_take_r2 : List Cond := [Cond.selects RX1 yX1_absorbByte yX1_absorbByte, Cond.code yX1_absorbByte cX1_absorbByte 2 none, Cond.fieldLink RX1 67 "TreeHashes$Hasher" "inBlock" "I", Cond.fieldLink RX1 64 "TreeHashes$Hasher" "blocks" "I", Cond.fieldLink RX1 28 "TreeHashes$Hasher" "block" "[I", Cond.fieldLink RX1 52 "TreeHashes$Hasher" "taken" "I", Cond.methodLink RX1 80 yX1_closeChunk, Cond.instanceMethod yX1_closeChunk, Cond.selects RX1 yX1_closeChunk yX1_closeChunk, Cond.code yX1_closeChunk cX1_closeChunk 2 none, Cond.fieldLink RX1 14 "TreeHashes$Hasher" "mix" "LTreeHashes$Mix;", Cond.fieldLink RX1 55 "TreeHashes$Hasher" "closed" "I", Cond.fieldLink RX1 58 "TreeHashes$Hasher" "depth" "I", Cond.fieldLink RX1 22 "TreeHashes$Hasher" "stack" "[I", Cond.fieldLink RX1 18 "TreeHashes$Hasher" "key" "[I", Cond.fieldLink RX1 46 "TreeHashes$Hasher" "base" "I", Cond.methodLink RX1 86 yX1_prepareBlock, Cond.instanceMethod yX1_prepareBlock, Cond.selects RX1 yX1_prepareBlock yX1_prepareBlock, Cond.code yX1_prepareBlock cX1_prepareBlock 3 none, Cond.fieldLink RX1 25 "TreeHashes$Hasher" "chunkChain" "[I", Cond.fieldLink RX1 49 "TreeHashes$Hasher" "firstChunk" "I", Cond.methodLink RX1 96 yX2_prepare, Cond.instanceMethod yX2_prepare]
def wsX4_take_r3 : List Cond := [Cond.selects RX2 yX2_prepare yX2_prepare, Cond.initialized RX2, Cond.code yX2_prepare cX2_prepare 8 none, Cond.fieldLink RX2 9 "TreeHashes$Mix" "chain" "[I", Cond.fieldLink RX2 15 "TreeHashes$Mix" "block" "[I", Cond.fieldLink RX2 27 "TreeHashes$Mix" "count" "J", Cond.fieldLink RX2 31 "TreeHashes$Mix" "length" "I", Cond.fieldLink RX2 35 "TreeHashes$Mix" "flags" "I", Cond.methodLink RX1 89 yX2_run, Cond.instanceMethod yX2_run, Cond.selects RX2 yX2_run yX2_run, Cond.code yX2_run cX2_run 2 none, Cond.fieldLink RX2 21 "TreeHashes$Mix" "w" "[I", Cond.fieldLink RX2 18 "TreeHashes$Mix" "v" "[I", Cond.methodLink RX2 66 yX2_fillIn, Cond.instanceMethod yX2_fillIn, Cond.selects RX2 yX2_fillIn yX2_fillIn, Cond.code yX2_fillIn cX2_fillIn 2 none, Cond.fieldLink RX2 76 "TreeHashes$Mix" "START" "[I", Cond.methodLink RX2 69 yX2_turn, Cond.instanceMethod yX2_turn, Cond.selects RX2 yX2_turn yX2_turn, Cond.code yX2_turn cX2_turn 11 none, Cond.methodLink RX2 73 yX2_reorder]
def wsX4_take_r4 : List Cond := [Cond.instanceMethod yX2_reorder, Cond.selects RX2 yX2_reorder yX2_reorder, Cond.code yX2_reorder cX2_reorder 2 none, Cond.fieldLink RX2 24 "TreeHashes$Mix" "nextW" "[I", Cond.fieldLink RX2 79 "TreeHashes$Mix" "ORDER" "[I", Cond.methodLink RX1 92 yX2_joinBehind, Cond.instanceMethod yX2_joinBehind, Cond.selects RX2 yX2_joinBehind yX2_joinBehind, Cond.code yX2_joinBehind cX2_joinBehind 6 none, Cond.methodLink RX2 38 yX2_prepare, Cond.methodLink RX1 100 yX2_writeChain, Cond.instanceMethod yX2_writeChain, Cond.selects RX2 yX2_writeChain yX2_writeChain, Cond.code yX2_writeChain cX2_writeChain 4 none, Cond.methodLink RX1 61 yX1_startChunk, Cond.instanceMethod yX1_startChunk, Cond.selects RX1 yX1_startChunk yX1_startChunk, Cond.code yX1_startChunk cX1_startChunk 1 none, Cond.methodLink RX1 38 yX1_copyWords, Cond.static yX1_copyWords, Cond.code yX1_copyWords cX1_copyWords 3 none, Cond.methodLink RX1 104 yX1_startBlock, Cond.instanceMethod yX1_startBlock, Cond.selects RX1 yX1_startBlock yX1_startBlock]
def wsX4_take_r5 : List Cond := [Cond.code yX1_startBlock cX1_startBlock 2 none, Cond.methodLink RX1 83 yX1_closeBlock, Cond.instanceMethod yX1_closeBlock, Cond.selects RX1 yX1_closeBlock yX1_closeBlock, Cond.code yX1_closeBlock cX1_closeBlock 1 none]
def wsX4_take : List Cond := .code yX4_take cX4_take 3 (some .int) :: ((wsX4_take_r1 ++ (wsX4_take_r2 ++ (wsX4_take_r3 ++ (wsX4_take_r4 ++ wsX4_take_r5)))) ++ wsX40 ++ wsX00 ++ wsX10 ++ wsX20)
def wsX4_fill_r1 : List Cond := [Cond.constant RX4 88 (40000), Cond.fieldLink RX4 17 "TreeHashes" "hashers" "[LTreeHashes$Hasher;", Cond.methodLink RX4 68 yX4_isHasher, Cond.static yX4_isHasher, Cond.initialized RX4, Cond.code yX4_isHasher cX4_isHasher 1 (some .boolean), Cond.methodLink RX4 96 yX1_absorbByte, Cond.instanceMethod yX1_absorbByte, Cond.selects RX1 yX1_absorbByte yX1_absorbByte, Cond.initialized RX1, Cond.code yX1_absorbByte cX1_absorbByte 2 none, Cond.fieldLink RX1 67 "TreeHashes$Hasher" "inBlock" "I", Cond.fieldLink RX1 64 "TreeHashes$Hasher" "blocks" "I", Cond.fieldLink RX1 28 "TreeHashes$Hasher" "block" "[I", Cond.fieldLink RX1 52 "TreeHashes$Hasher" "taken" "I", Cond.methodLink RX1 80 yX1_closeChunk, Cond.instanceMethod yX1_closeChunk, Cond.selects RX1 yX1_closeChunk yX1_closeChunk, Cond.code yX1_closeChunk cX1_closeChunk 2 none, Cond.fieldLink RX1 14 "TreeHashes$Hasher" "mix" "LTreeHashes$Mix;", Cond.fieldLink RX1 55 "TreeHashes$Hasher" "closed" "I", Cond.fieldLink RX1 58 "TreeHashes$Hasher" "depth" "I", Cond.fieldLink RX1 22 "TreeHashes$Hasher" "stack" "[I", Cond.fieldLink RX1 18 "TreeHashes$Hasher" "key" "[I"]
def wsX4_fill_r2 : List Cond := [Cond.fieldLink RX1 46 "TreeHashes$Hasher" "base" "I", Cond.methodLink RX1 86 yX1_prepareBlock, Cond.instanceMethod yX1_prepareBlock, Cond.selects RX1 yX1_prepareBlock yX1_prepareBlock, Cond.code yX1_prepareBlock cX1_prepareBlock 3 none, Cond.fieldLink RX1 25 "TreeHashes$Hasher" "chunkChain" "[I", Cond.fieldLink RX1 49 "TreeHashes$Hasher" "firstChunk" "I", Cond.methodLink RX1 96 yX2_prepare, Cond.instanceMethod yX2_prepare, Cond.selects RX2 yX2_prepare yX2_prepare, Cond.initialized RX2, Cond.code yX2_prepare cX2_prepare 8 none, Cond.fieldLink RX2 9 "TreeHashes$Mix" "chain" "[I", Cond.fieldLink RX2 15 "TreeHashes$Mix" "block" "[I", Cond.fieldLink RX2 27 "TreeHashes$Mix" "count" "J", Cond.fieldLink RX2 31 "TreeHashes$Mix" "length" "I", Cond.fieldLink RX2 35 "TreeHashes$Mix" "flags" "I", Cond.methodLink RX1 89 yX2_run, Cond.instanceMethod yX2_run, Cond.selects RX2 yX2_run yX2_run, Cond.code yX2_run cX2_run 2 none, Cond.fieldLink RX2 21 "TreeHashes$Mix" "w" "[I", Cond.fieldLink RX2 18 "TreeHashes$Mix" "v" "[I", Cond.methodLink RX2 66 yX2_fillIn]
def wsX4_fill_r3 : List Cond := [Cond.instanceMethod yX2_fillIn, Cond.selects RX2 yX2_fillIn yX2_fillIn, Cond.code yX2_fillIn cX2_fillIn 2 none, Cond.fieldLink RX2 76 "TreeHashes$Mix" "START" "[I", Cond.methodLink RX2 69 yX2_turn, Cond.instanceMethod yX2_turn, Cond.selects RX2 yX2_turn yX2_turn, Cond.code yX2_turn cX2_turn 11 none, Cond.methodLink RX2 73 yX2_reorder, Cond.instanceMethod yX2_reorder, Cond.selects RX2 yX2_reorder yX2_reorder, Cond.code yX2_reorder cX2_reorder 2 none, Cond.fieldLink RX2 24 "TreeHashes$Mix" "nextW" "[I", Cond.fieldLink RX2 79 "TreeHashes$Mix" "ORDER" "[I", Cond.methodLink RX1 92 yX2_joinBehind, Cond.instanceMethod yX2_joinBehind, Cond.selects RX2 yX2_joinBehind yX2_joinBehind, Cond.code yX2_joinBehind cX2_joinBehind 6 none, Cond.methodLink RX2 38 yX2_prepare, Cond.methodLink RX1 100 yX2_writeChain, Cond.instanceMethod yX2_writeChain, Cond.selects RX2 yX2_writeChain yX2_writeChain, Cond.code yX2_writeChain cX2_writeChain 4 none, Cond.methodLink RX1 61 yX1_startChunk]
def wsX4_fill_r4 : List Cond := [Cond.instanceMethod yX1_startChunk, Cond.selects RX1 yX1_startChunk yX1_startChunk, Cond.code yX1_startChunk cX1_startChunk 1 none, Cond.methodLink RX1 38 yX1_copyWords, Cond.static yX1_copyWords, Cond.code yX1_copyWords cX1_copyWords 3 none, Cond.methodLink RX1 104 yX1_startBlock, Cond.instanceMethod yX1_startBlock, Cond.selects RX1 yX1_startBlock yX1_startBlock, Cond.code yX1_startBlock cX1_startBlock 2 none, Cond.methodLink RX1 83 yX1_closeBlock, Cond.instanceMethod yX1_closeBlock, Cond.selects RX1 yX1_closeBlock yX1_closeBlock, Cond.code yX1_closeBlock cX1_closeBlock 1 none]
def wsX4_fill : List Cond := .code yX4_fill cX4_fill 6 (some .int) :: ((wsX4_fill_r1 ++ (wsX4_fill_r2 ++ (wsX4_fill_r3 ++ wsX4_fill_r4))) ++ wsX40 ++ wsX10 ++ wsX20)
def wsX4_output_r1 : List Cond := [Cond.constantLong RX4 99 (4611686018427387904), Cond.fieldLink RX4 17 "TreeHashes" "hashers" "[LTreeHashes$Hasher;", Cond.fieldLink RX4 11 "TreeHashes" "registers" "[LTreeHashes$Bytes;", Cond.methodLink RX4 68 yX4_isHasher, Cond.static yX4_isHasher, Cond.initialized RX4, Cond.code yX4_isHasher cX4_isHasher 1 (some .boolean), Cond.methodLink RX4 47 yX4_isRegister, Cond.static yX4_isRegister, Cond.code yX4_isRegister cX4_isRegister 1 (some .boolean), Cond.methodLink RX4 101 yX1_prepareLast, Cond.instanceMethod yX1_prepareLast, Cond.selects RX1 yX1_prepareLast yX1_prepareLast, Cond.initialized RX1, Cond.code yX1_prepareLast cX1_prepareLast 2 none, Cond.fieldLink RX1 58 "TreeHashes$Hasher" "depth" "I", Cond.fieldLink RX1 14 "TreeHashes$Hasher" "mix" "LTreeHashes$Mix;", Cond.fieldLink RX1 22 "TreeHashes$Hasher" "stack" "[I", Cond.fieldLink RX1 18 "TreeHashes$Hasher" "key" "[I", Cond.fieldLink RX1 46 "TreeHashes$Hasher" "base" "I", Cond.methodLink RX1 86 yX1_prepareBlock, Cond.instanceMethod yX1_prepareBlock, Cond.selects RX1 yX1_prepareBlock yX1_prepareBlock, Cond.code yX1_prepareBlock cX1_prepareBlock 3 none]
def wsX4_output_r2 : List Cond := [Cond.fieldLink RX1 64 "TreeHashes$Hasher" "blocks" "I", Cond.fieldLink RX1 25 "TreeHashes$Hasher" "chunkChain" "[I", Cond.fieldLink RX1 28 "TreeHashes$Hasher" "block" "[I", Cond.fieldLink RX1 49 "TreeHashes$Hasher" "firstChunk" "I", Cond.fieldLink RX1 55 "TreeHashes$Hasher" "closed" "I", Cond.fieldLink RX1 67 "TreeHashes$Hasher" "inBlock" "I", Cond.methodLink RX1 96 yX2_prepare, Cond.instanceMethod yX2_prepare, Cond.selects RX2 yX2_prepare yX2_prepare, Cond.initialized RX2, Cond.code yX2_prepare cX2_prepare 8 none, Cond.fieldLink RX2 9 "TreeHashes$Mix" "chain" "[I", Cond.fieldLink RX2 15 "TreeHashes$Mix" "block" "[I", Cond.fieldLink RX2 27 "TreeHashes$Mix" "count" "J", Cond.fieldLink RX2 31 "TreeHashes$Mix" "length" "I", Cond.fieldLink RX2 35 "TreeHashes$Mix" "flags" "I", Cond.methodLink RX1 89 yX2_run, Cond.instanceMethod yX2_run, Cond.selects RX2 yX2_run yX2_run, Cond.code yX2_run cX2_run 2 none, Cond.fieldLink RX2 21 "TreeHashes$Mix" "w" "[I", Cond.fieldLink RX2 18 "TreeHashes$Mix" "v" "[I", Cond.methodLink RX2 66 yX2_fillIn, Cond.instanceMethod yX2_fillIn]
def wsX4_output_r3 : List Cond := [Cond.selects RX2 yX2_fillIn yX2_fillIn, Cond.code yX2_fillIn cX2_fillIn 2 none, Cond.fieldLink RX2 76 "TreeHashes$Mix" "START" "[I", Cond.methodLink RX2 69 yX2_turn, Cond.instanceMethod yX2_turn, Cond.selects RX2 yX2_turn yX2_turn, Cond.code yX2_turn cX2_turn 11 none, Cond.methodLink RX2 73 yX2_reorder, Cond.instanceMethod yX2_reorder, Cond.selects RX2 yX2_reorder yX2_reorder, Cond.code yX2_reorder cX2_reorder 2 none, Cond.fieldLink RX2 24 "TreeHashes$Mix" "nextW" "[I", Cond.fieldLink RX2 79 "TreeHashes$Mix" "ORDER" "[I", Cond.methodLink RX1 92 yX2_joinBehind, Cond.instanceMethod yX2_joinBehind, Cond.selects RX2 yX2_joinBehind yX2_joinBehind, Cond.code yX2_joinBehind cX2_joinBehind 6 none, Cond.methodLink RX2 38 yX2_prepare, Cond.methodLink RX4 108 yX2_writeOutput, Cond.instanceMethod yX2_writeOutput, Cond.selects RX2 yX2_writeOutput yX2_writeOutput, Cond.code yX2_writeOutput cX2_writeOutput 7 none, Cond.constantLong RX2 51 (63), Cond.methodLink RX2 42 yX0_keepFirst]
def wsX4_output_r4 : List Cond := [Cond.instanceMethod yX0_keepFirst, Cond.selects RX0 yX0_keepFirst yX0_keepFirst, Cond.initialized RX0, Cond.code yX0_keepFirst cX0_keepFirst 3 (some .int), Cond.fieldLink RX0 21 "TreeHashes$Bytes" "count" "I", Cond.methodLink RX2 48 yX2_makeRoot, Cond.instanceMethod yX2_makeRoot, Cond.selects RX2 yX2_makeRoot yX2_makeRoot, Cond.code yX2_makeRoot cX2_makeRoot 1 none, Cond.methodLink RX2 53 yX2_run, Cond.methodLink RX2 56 yX2_outputByte, Cond.instanceMethod yX2_outputByte, Cond.selects RX2 yX2_outputByte yX2_outputByte, Cond.code yX2_outputByte cX2_outputByte 2 (some .int), Cond.methodLink RX2 59 yX0_append, Cond.instanceMethod yX0_append, Cond.selects RX0 yX0_append yX0_append, Cond.code yX0_append cX0_append 2 none, Cond.fieldLink RX0 15 "TreeHashes$Bytes" "row" "[B"]
def wsX4_output : List Cond := .code yX4_output cX4_output 6 (some .int) :: ((wsX4_output_r1 ++ (wsX4_output_r2 ++ (wsX4_output_r3 ++ wsX4_output_r4))) ++ wsX40 ++ wsX10 ++ wsX20 ++ wsX00)
def wsX4_copy_r1 : List Cond := [Cond.fieldLink RX4 17 "TreeHashes" "hashers" "[LTreeHashes$Hasher;", Cond.methodLink RX4 68 yX4_isHasher, Cond.static yX4_isHasher, Cond.initialized RX4, Cond.code yX4_isHasher cX4_isHasher 1 (some .boolean), Cond.methodLink RX4 112 yX1_becomeAs, Cond.instanceMethod yX1_becomeAs, Cond.selects RX1 yX1_becomeAs yX1_becomeAs, Cond.initialized RX1, Cond.code yX1_becomeAs cX1_becomeAs 2 none, Cond.fieldLink RX1 18 "TreeHashes$Hasher" "key" "[I", Cond.fieldLink RX1 22 "TreeHashes$Hasher" "stack" "[I", Cond.fieldLink RX1 25 "TreeHashes$Hasher" "chunkChain" "[I", Cond.fieldLink RX1 28 "TreeHashes$Hasher" "block" "[I", Cond.fieldLink RX1 42 "TreeHashes$Hasher" "mode" "I", Cond.fieldLink RX1 46 "TreeHashes$Hasher" "base" "I", Cond.fieldLink RX1 49 "TreeHashes$Hasher" "firstChunk" "I", Cond.fieldLink RX1 52 "TreeHashes$Hasher" "taken" "I", Cond.fieldLink RX1 55 "TreeHashes$Hasher" "closed" "I", Cond.fieldLink RX1 58 "TreeHashes$Hasher" "depth" "I", Cond.fieldLink RX1 64 "TreeHashes$Hasher" "blocks" "I", Cond.fieldLink RX1 67 "TreeHashes$Hasher" "inBlock" "I", Cond.methodLink RX1 38 yX1_copyWords, Cond.static yX1_copyWords]
def wsX4_copy_r2 : List Cond := [Cond.code yX1_copyWords cX1_copyWords 3 none]
def wsX4_copy : List Cond := .code yX4_copy cX4_copy 3 (some .int) :: ((wsX4_copy_r1 ++ wsX4_copy_r2) ++ wsX40 ++ wsX10)
def wsX4_told : List Cond := .code yX4_told cX4_told 3 (some .int) :: ([.fieldLink RX4 17 "TreeHashes" "hashers" "[LTreeHashes$Hasher;", .methodLink RX4 68 yX4_isHasher, .static yX4_isHasher, .initialized RX4, .code yX4_isHasher cX4_isHasher 1 (some .boolean), .methodLink RX4 125 yX1_inChunk, .instanceMethod yX1_inChunk, .selects RX1 yX1_inChunk yX1_inChunk, .initialized RX1, .code yX1_inChunk cX1_inChunk 1 (some .int), .fieldLink RX1 64 "TreeHashes$Hasher" "blocks" "I", .fieldLink RX1 67 "TreeHashes$Hasher" "inBlock" "I"] ++ wsX40 ++ wsX10)
def wsX4_chain : List Cond := .code yX4_chain cX4_chain 4 (some .int) :: ([.fieldLink RX4 17 "TreeHashes" "hashers" "[LTreeHashes$Hasher;", .methodLink RX4 68 yX4_isHasher, .static yX4_isHasher, .initialized RX4, .code yX4_isHasher cX4_isHasher 1 (some .boolean), .methodLink RX4 129 yX1_stackWord, .instanceMethod yX1_stackWord, .selects RX1 yX1_stackWord yX1_stackWord, .initialized RX1, .code yX1_stackWord cX1_stackWord 3 (some .int), .fieldLink RX1 58 "TreeHashes$Hasher" "depth" "I", .fieldLink RX1 22 "TreeHashes$Hasher" "stack" "[I"] ++ wsX40 ++ wsX10)
def wsX4_grow : List Cond := .code yX4_grow cX4_grow 5 (some .int) :: ([.fieldLink RX4 24 "TreeHashes" "file" "LTreeHashes$Bytes;", .methodLink RX4 51 yX0_hasRoomFor, .instanceMethod yX0_hasRoomFor, .selects RX0 yX0_hasRoomFor yX0_hasRoomFor, .initialized RX0, .code yX0_hasRoomFor cX0_hasRoomFor 2 (some .boolean), .fieldLink RX0 15 "TreeHashes$Bytes" "row" "[B", .fieldLink RX0 21 "TreeHashes$Bytes" "count" "I", .methodLink RX4 54 yX0_append, .instanceMethod yX0_append, .selects RX0 yX0_append yX0_append, .code yX0_append cX0_append 2 none] ++ wsX40 ++ wsX00)
def wsX4_spoil : List Cond := .code yX4_spoil cX4_spoil 3 (some .int) :: ([.fieldLink RX4 24 "TreeHashes" "file" "LTreeHashes$Bytes;", .methodLink RX4 133 yX0_change, .instanceMethod yX0_change, .selects RX0 yX0_change yX0_change, .initialized RX0, .code yX0_change cX0_change 3 (some .int), .fieldLink RX0 21 "TreeHashes$Bytes" "count" "I", .fieldLink RX0 15 "TreeHashes$Bytes" "row" "[B"] ++ wsX40 ++ wsX00)
def wsX4_shorten : List Cond := .code yX4_shorten cX4_shorten 2 (some .int) :: ([.fieldLink RX4 24 "TreeHashes" "file" "LTreeHashes$Bytes;", .methodLink RX4 61 yX0_keepFirst, .instanceMethod yX0_keepFirst, .selects RX0 yX0_keepFirst yX0_keepFirst, .initialized RX0, .code yX0_keepFirst cX0_keepFirst 3 (some .int), .fieldLink RX0 21 "TreeHashes$Bytes" "count" "I"] ++ wsX40 ++ wsX00)
def wsX4_prepareTree_r1 : List Cond := [Cond.fieldLink RX4 32 "TreeHashes" "worker" "LTreeHashes$Hasher;", Cond.fieldLink RX4 71 "TreeHashes$Mix" "START" "[I", Cond.methodLink RX4 76 yX1_restart, Cond.instanceMethod yX1_restart, Cond.selects RX1 yX1_restart yX1_restart, Cond.initialized RX1, Cond.code yX1_restart cX1_restart 5 none, Cond.fieldLink RX1 18 "TreeHashes$Hasher" "key" "[I", Cond.fieldLink RX1 42 "TreeHashes$Hasher" "mode" "I", Cond.fieldLink RX1 46 "TreeHashes$Hasher" "base" "I", Cond.fieldLink RX1 49 "TreeHashes$Hasher" "firstChunk" "I", Cond.fieldLink RX1 52 "TreeHashes$Hasher" "taken" "I", Cond.fieldLink RX1 55 "TreeHashes$Hasher" "closed" "I", Cond.fieldLink RX1 58 "TreeHashes$Hasher" "depth" "I", Cond.methodLink RX1 38 yX1_copyWords, Cond.static yX1_copyWords, Cond.code yX1_copyWords cX1_copyWords 3 none, Cond.methodLink RX1 61 yX1_startChunk, Cond.instanceMethod yX1_startChunk, Cond.selects RX1 yX1_startChunk yX1_startChunk, Cond.code yX1_startChunk cX1_startChunk 1 none, Cond.fieldLink RX1 25 "TreeHashes$Hasher" "chunkChain" "[I", Cond.fieldLink RX1 64 "TreeHashes$Hasher" "blocks" "I", Cond.methodLink RX1 104 yX1_startBlock]
def wsX4_prepareTree_r2 : List Cond := [Cond.instanceMethod yX1_startBlock, Cond.selects RX1 yX1_startBlock yX1_startBlock, Cond.code yX1_startBlock cX1_startBlock 2 none, Cond.fieldLink RX1 28 "TreeHashes$Hasher" "block" "[I", Cond.fieldLink RX1 67 "TreeHashes$Hasher" "inBlock" "I", Cond.methodLink RX4 92 yX1_absorb, Cond.instanceMethod yX1_absorb, Cond.selects RX1 yX1_absorb yX1_absorb, Cond.code yX1_absorb cX1_absorb 5 none, Cond.methodLink RX1 70 yX0_byteAt, Cond.instanceMethod yX0_byteAt, Cond.selects RX0 yX0_byteAt yX0_byteAt, Cond.initialized RX0, Cond.code yX0_byteAt cX0_byteAt 2 (some .int), Cond.fieldLink RX0 21 "TreeHashes$Bytes" "count" "I", Cond.fieldLink RX0 15 "TreeHashes$Bytes" "row" "[B", Cond.methodLink RX1 76 yX1_absorbByte, Cond.instanceMethod yX1_absorbByte, Cond.selects RX1 yX1_absorbByte yX1_absorbByte, Cond.code yX1_absorbByte cX1_absorbByte 2 none, Cond.methodLink RX1 80 yX1_closeChunk, Cond.instanceMethod yX1_closeChunk, Cond.selects RX1 yX1_closeChunk yX1_closeChunk, Cond.code yX1_closeChunk cX1_closeChunk 2 none]
def wsX4_prepareTree_r3 : List Cond := [Cond.fieldLink RX1 14 "TreeHashes$Hasher" "mix" "LTreeHashes$Mix;", Cond.fieldLink RX1 22 "TreeHashes$Hasher" "stack" "[I", Cond.methodLink RX1 86 yX1_prepareBlock, Cond.instanceMethod yX1_prepareBlock, Cond.selects RX1 yX1_prepareBlock yX1_prepareBlock, Cond.code yX1_prepareBlock cX1_prepareBlock 3 none, Cond.methodLink RX1 96 yX2_prepare, Cond.instanceMethod yX2_prepare, Cond.selects RX2 yX2_prepare yX2_prepare, Cond.initialized RX2, Cond.code yX2_prepare cX2_prepare 8 none, Cond.fieldLink RX2 9 "TreeHashes$Mix" "chain" "[I", Cond.fieldLink RX2 15 "TreeHashes$Mix" "block" "[I", Cond.fieldLink RX2 27 "TreeHashes$Mix" "count" "J", Cond.fieldLink RX2 31 "TreeHashes$Mix" "length" "I", Cond.fieldLink RX2 35 "TreeHashes$Mix" "flags" "I", Cond.methodLink RX1 89 yX2_run, Cond.instanceMethod yX2_run, Cond.selects RX2 yX2_run yX2_run, Cond.code yX2_run cX2_run 2 none, Cond.fieldLink RX2 21 "TreeHashes$Mix" "w" "[I", Cond.fieldLink RX2 18 "TreeHashes$Mix" "v" "[I", Cond.methodLink RX2 66 yX2_fillIn, Cond.instanceMethod yX2_fillIn]
def wsX4_prepareTree_r4 : List Cond := [Cond.selects RX2 yX2_fillIn yX2_fillIn, Cond.code yX2_fillIn cX2_fillIn 2 none, Cond.fieldLink RX2 76 "TreeHashes$Mix" "START" "[I", Cond.methodLink RX2 69 yX2_turn, Cond.instanceMethod yX2_turn, Cond.selects RX2 yX2_turn yX2_turn, Cond.code yX2_turn cX2_turn 11 none, Cond.methodLink RX2 73 yX2_reorder, Cond.instanceMethod yX2_reorder, Cond.selects RX2 yX2_reorder yX2_reorder, Cond.code yX2_reorder cX2_reorder 2 none, Cond.fieldLink RX2 24 "TreeHashes$Mix" "nextW" "[I", Cond.fieldLink RX2 79 "TreeHashes$Mix" "ORDER" "[I", Cond.methodLink RX1 92 yX2_joinBehind, Cond.instanceMethod yX2_joinBehind, Cond.selects RX2 yX2_joinBehind yX2_joinBehind, Cond.code yX2_joinBehind cX2_joinBehind 6 none, Cond.methodLink RX2 38 yX2_prepare, Cond.methodLink RX1 100 yX2_writeChain, Cond.instanceMethod yX2_writeChain, Cond.selects RX2 yX2_writeChain yX2_writeChain, Cond.code yX2_writeChain cX2_writeChain 4 none, Cond.methodLink RX1 83 yX1_closeBlock, Cond.instanceMethod yX1_closeBlock]
def wsX4_prepareTree_r5 : List Cond := [Cond.selects RX1 yX1_closeBlock yX1_closeBlock, Cond.code yX1_closeBlock cX1_closeBlock 1 none, Cond.methodLink RX4 101 yX1_prepareLast, Cond.instanceMethod yX1_prepareLast, Cond.selects RX1 yX1_prepareLast yX1_prepareLast, Cond.code yX1_prepareLast cX1_prepareLast 2 none]
def wsX4_prepareTree : List Cond := .code yX4_prepareTree cX4_prepareTree 5 none :: ((wsX4_prepareTree_r1 ++ (wsX4_prepareTree_r2 ++ (wsX4_prepareTree_r3 ++ (wsX4_prepareTree_r4 ++ wsX4_prepareTree_r5)))) ++ wsX40 ++ wsX10 ++ wsX00 ++ wsX20)
def wsX4_root_r1 : List Cond := [Cond.fieldLink RX4 24 "TreeHashes" "file" "LTreeHashes$Bytes;", Cond.fieldLink RX4 32 "TreeHashes" "worker" "LTreeHashes$Hasher;", Cond.fieldLink RX4 11 "TreeHashes" "registers" "[LTreeHashes$Bytes;", Cond.methodLink RX4 47 yX4_isRegister, Cond.static yX4_isRegister, Cond.initialized RX4, Cond.code yX4_isRegister cX4_isRegister 1 (some .boolean), Cond.methodLink RX4 136 yX4_prepareTree, Cond.instanceMethod yX4_prepareTree, Cond.selects RX4 yX4_prepareTree yX4_prepareTree, Cond.code yX4_prepareTree cX4_prepareTree 5 none, Cond.fieldLink RX4 71 "TreeHashes$Mix" "START" "[I", Cond.methodLink RX4 76 yX1_restart, Cond.instanceMethod yX1_restart, Cond.selects RX1 yX1_restart yX1_restart, Cond.initialized RX1, Cond.code yX1_restart cX1_restart 5 none, Cond.fieldLink RX1 18 "TreeHashes$Hasher" "key" "[I", Cond.fieldLink RX1 42 "TreeHashes$Hasher" "mode" "I", Cond.fieldLink RX1 46 "TreeHashes$Hasher" "base" "I", Cond.fieldLink RX1 49 "TreeHashes$Hasher" "firstChunk" "I", Cond.fieldLink RX1 52 "TreeHashes$Hasher" "taken" "I", Cond.fieldLink RX1 55 "TreeHashes$Hasher" "closed" "I", Cond.fieldLink RX1 58 "TreeHashes$Hasher" "depth" "I"]
def wsX4_root_r2 : List Cond := [Cond.methodLink RX1 38 yX1_copyWords, Cond.static yX1_copyWords, Cond.code yX1_copyWords cX1_copyWords 3 none, Cond.methodLink RX1 61 yX1_startChunk, Cond.instanceMethod yX1_startChunk, Cond.selects RX1 yX1_startChunk yX1_startChunk, Cond.code yX1_startChunk cX1_startChunk 1 none, Cond.fieldLink RX1 25 "TreeHashes$Hasher" "chunkChain" "[I", Cond.fieldLink RX1 64 "TreeHashes$Hasher" "blocks" "I", Cond.methodLink RX1 104 yX1_startBlock, Cond.instanceMethod yX1_startBlock, Cond.selects RX1 yX1_startBlock yX1_startBlock, Cond.code yX1_startBlock cX1_startBlock 2 none, Cond.fieldLink RX1 28 "TreeHashes$Hasher" "block" "[I", Cond.fieldLink RX1 67 "TreeHashes$Hasher" "inBlock" "I", Cond.methodLink RX4 92 yX1_absorb, Cond.instanceMethod yX1_absorb, Cond.selects RX1 yX1_absorb yX1_absorb, Cond.code yX1_absorb cX1_absorb 5 none, Cond.methodLink RX1 70 yX0_byteAt, Cond.instanceMethod yX0_byteAt, Cond.selects RX0 yX0_byteAt yX0_byteAt, Cond.initialized RX0, Cond.code yX0_byteAt cX0_byteAt 2 (some .int)]
def wsX4_root_r3 : List Cond := [Cond.fieldLink RX0 21 "TreeHashes$Bytes" "count" "I", Cond.fieldLink RX0 15 "TreeHashes$Bytes" "row" "[B", Cond.methodLink RX1 76 yX1_absorbByte, Cond.instanceMethod yX1_absorbByte, Cond.selects RX1 yX1_absorbByte yX1_absorbByte, Cond.code yX1_absorbByte cX1_absorbByte 2 none, Cond.methodLink RX1 80 yX1_closeChunk, Cond.instanceMethod yX1_closeChunk, Cond.selects RX1 yX1_closeChunk yX1_closeChunk, Cond.code yX1_closeChunk cX1_closeChunk 2 none, Cond.fieldLink RX1 14 "TreeHashes$Hasher" "mix" "LTreeHashes$Mix;", Cond.fieldLink RX1 22 "TreeHashes$Hasher" "stack" "[I", Cond.methodLink RX1 86 yX1_prepareBlock, Cond.instanceMethod yX1_prepareBlock, Cond.selects RX1 yX1_prepareBlock yX1_prepareBlock, Cond.code yX1_prepareBlock cX1_prepareBlock 3 none, Cond.methodLink RX1 96 yX2_prepare, Cond.instanceMethod yX2_prepare, Cond.selects RX2 yX2_prepare yX2_prepare, Cond.initialized RX2, Cond.code yX2_prepare cX2_prepare 8 none, Cond.fieldLink RX2 9 "TreeHashes$Mix" "chain" "[I", Cond.fieldLink RX2 15 "TreeHashes$Mix" "block" "[I", Cond.fieldLink RX2 27 "TreeHashes$Mix" "count" "J"]
def wsX4_root_r4 : List Cond := [Cond.fieldLink RX2 31 "TreeHashes$Mix" "length" "I", Cond.fieldLink RX2 35 "TreeHashes$Mix" "flags" "I", Cond.methodLink RX1 89 yX2_run, Cond.instanceMethod yX2_run, Cond.selects RX2 yX2_run yX2_run, Cond.code yX2_run cX2_run 2 none, Cond.fieldLink RX2 21 "TreeHashes$Mix" "w" "[I", Cond.fieldLink RX2 18 "TreeHashes$Mix" "v" "[I", Cond.methodLink RX2 66 yX2_fillIn, Cond.instanceMethod yX2_fillIn, Cond.selects RX2 yX2_fillIn yX2_fillIn, Cond.code yX2_fillIn cX2_fillIn 2 none, Cond.fieldLink RX2 76 "TreeHashes$Mix" "START" "[I", Cond.methodLink RX2 69 yX2_turn, Cond.instanceMethod yX2_turn, Cond.selects RX2 yX2_turn yX2_turn, Cond.code yX2_turn cX2_turn 11 none, Cond.methodLink RX2 73 yX2_reorder, Cond.instanceMethod yX2_reorder, Cond.selects RX2 yX2_reorder yX2_reorder, Cond.code yX2_reorder cX2_reorder 2 none, Cond.fieldLink RX2 24 "TreeHashes$Mix" "nextW" "[I", Cond.fieldLink RX2 79 "TreeHashes$Mix" "ORDER" "[I", Cond.methodLink RX1 92 yX2_joinBehind]
def wsX4_root_r5 : List Cond := [Cond.instanceMethod yX2_joinBehind, Cond.selects RX2 yX2_joinBehind yX2_joinBehind, Cond.code yX2_joinBehind cX2_joinBehind 6 none, Cond.methodLink RX2 38 yX2_prepare, Cond.methodLink RX1 100 yX2_writeChain, Cond.instanceMethod yX2_writeChain, Cond.selects RX2 yX2_writeChain yX2_writeChain, Cond.code yX2_writeChain cX2_writeChain 4 none, Cond.methodLink RX1 83 yX1_closeBlock, Cond.instanceMethod yX1_closeBlock, Cond.selects RX1 yX1_closeBlock yX1_closeBlock, Cond.code yX1_closeBlock cX1_closeBlock 1 none, Cond.methodLink RX4 101 yX1_prepareLast, Cond.instanceMethod yX1_prepareLast, Cond.selects RX1 yX1_prepareLast yX1_prepareLast, Cond.code yX1_prepareLast cX1_prepareLast 2 none, Cond.methodLink RX4 108 yX2_writeOutput, Cond.instanceMethod yX2_writeOutput, Cond.selects RX2 yX2_writeOutput yX2_writeOutput, Cond.code yX2_writeOutput cX2_writeOutput 7 none, Cond.constantLong RX2 51 (63), Cond.methodLink RX2 42 yX0_keepFirst, Cond.instanceMethod yX0_keepFirst, Cond.selects RX0 yX0_keepFirst yX0_keepFirst]
def wsX4_root_r6 : List Cond := [Cond.code yX0_keepFirst cX0_keepFirst 3 (some .int), Cond.methodLink RX2 48 yX2_makeRoot, Cond.instanceMethod yX2_makeRoot, Cond.selects RX2 yX2_makeRoot yX2_makeRoot, Cond.code yX2_makeRoot cX2_makeRoot 1 none, Cond.methodLink RX2 53 yX2_run, Cond.methodLink RX2 56 yX2_outputByte, Cond.instanceMethod yX2_outputByte, Cond.selects RX2 yX2_outputByte yX2_outputByte, Cond.code yX2_outputByte cX2_outputByte 2 (some .int), Cond.methodLink RX2 59 yX0_append, Cond.instanceMethod yX0_append, Cond.selects RX0 yX0_append yX0_append, Cond.code yX0_append cX0_append 2 none]
def wsX4_root : List Cond := .code yX4_root cX4_root 2 (some .int) :: ((wsX4_root_r1 ++ (wsX4_root_r2 ++ (wsX4_root_r3 ++ (wsX4_root_r4 ++ (wsX4_root_r5 ++ wsX4_root_r6))))) ++ wsX40 ++ wsX00 ++ wsX10 ++ wsX20)
def wsX4_chunksOf : List Cond := .code yX4_chunksOf cX4_chunksOf 1 (some .int) :: ([])
def wsX4_hasChunk : List Cond := .code yX4_hasChunk cX4_hasChunk 2 (some .boolean) :: ([.methodLink RX4 150 yX4_chunksOf, .static yX4_chunksOf, .initialized RX4, .code yX4_chunksOf cX4_chunksOf 1 (some .int)])
def wsX4_chunkLength : List Cond := .code yX4_chunkLength cX4_chunkLength 2 (some .int) :: ([.methodLink RX4 166 Lib.Math.min.name, .static Lib.Math.min.name, .initialized "java/lang/Math", .code Lib.Math.min.name Lib.Math.min.code 2 (some .int)])
def wsX4_prove_r1 : List Cond := [Cond.fieldLink RX4 24 "TreeHashes" "file" "LTreeHashes$Bytes;", Cond.fieldLink RX4 28 "TreeHashes" "proven" "LTreeHashes$Bytes;", Cond.fieldLink RX4 39 "TreeHashes" "way" "LTreeHashes$Way;", Cond.methodLink RX4 166 Lib.Math.min.name, Cond.static Lib.Math.min.name, Cond.initialized "java/lang/Math", Cond.code Lib.Math.min.name Lib.Math.min.code 2 (some .int), Cond.fieldLink RX4 32 "TreeHashes" "worker" "LTreeHashes$Hasher;", Cond.fieldLink RX4 43 "TreeHashes" "words" "[I", Cond.methodLink RX4 140 yX4_hasChunk, Cond.static yX4_hasChunk, Cond.initialized RX4, Cond.code yX4_hasChunk cX4_hasChunk 2 (some .boolean), Cond.methodLink RX4 150 yX4_chunksOf, Cond.static yX4_chunksOf, Cond.code yX4_chunksOf cX4_chunksOf 1 (some .int), Cond.methodLink RX4 61 yX0_keepFirst, Cond.instanceMethod yX0_keepFirst, Cond.selects RX0 yX0_keepFirst yX0_keepFirst, Cond.initialized RX0, Cond.code yX0_keepFirst cX0_keepFirst 3 (some .int), Cond.fieldLink RX0 21 "TreeHashes$Bytes" "count" "I", Cond.methodLink RX4 144 yX4_chunkLength, Cond.static yX4_chunkLength]
def wsX4_prove_r2 : List Cond := [Cond.code yX4_chunkLength cX4_chunkLength 2 (some .int), Cond.methodLink RX4 147 yX0_appendFrom, Cond.instanceMethod yX0_appendFrom, Cond.selects RX0 yX0_appendFrom yX0_appendFrom, Cond.code yX0_appendFrom cX0_appendFrom 5 none, Cond.methodLink RX0 29 yX0_byteAt, Cond.instanceMethod yX0_byteAt, Cond.selects RX0 yX0_byteAt yX0_byteAt, Cond.code yX0_byteAt cX0_byteAt 2 (some .int), Cond.fieldLink RX0 15 "TreeHashes$Bytes" "row" "[B", Cond.methodLink RX0 25 yX0_append, Cond.instanceMethod yX0_append, Cond.selects RX0 yX0_append yX0_append, Cond.code yX0_append cX0_append 2 none, Cond.methodLink RX4 153 yX3_lead, Cond.instanceMethod yX3_lead, Cond.selects RX3 yX3_lead yX3_lead, Cond.initialized RX3, Cond.code yX3_lead cX3_lead 6 none, Cond.fieldLink RX3 16 "TreeHashes$Way" "levels" "I", Cond.fieldLink RX3 9 "TreeHashes$Way" "otherFirst" "[I", Cond.fieldLink RX3 13 "TreeHashes$Way" "otherChunks" "[I", Cond.methodLink RX3 20 yX3_leftOf, Cond.static yX3_leftOf]
def wsX4_prove_r3 : List Cond := [Cond.code yX3_leftOf cX3_leftOf 3 (some .int), Cond.methodLink RX4 136 yX4_prepareTree, Cond.instanceMethod yX4_prepareTree, Cond.selects RX4 yX4_prepareTree yX4_prepareTree, Cond.code yX4_prepareTree cX4_prepareTree 5 none, Cond.fieldLink RX4 71 "TreeHashes$Mix" "START" "[I", Cond.methodLink RX4 76 yX1_restart, Cond.instanceMethod yX1_restart, Cond.selects RX1 yX1_restart yX1_restart, Cond.initialized RX1, Cond.code yX1_restart cX1_restart 5 none, Cond.fieldLink RX1 18 "TreeHashes$Hasher" "key" "[I", Cond.fieldLink RX1 42 "TreeHashes$Hasher" "mode" "I", Cond.fieldLink RX1 46 "TreeHashes$Hasher" "base" "I", Cond.fieldLink RX1 49 "TreeHashes$Hasher" "firstChunk" "I", Cond.fieldLink RX1 52 "TreeHashes$Hasher" "taken" "I", Cond.fieldLink RX1 55 "TreeHashes$Hasher" "closed" "I", Cond.fieldLink RX1 58 "TreeHashes$Hasher" "depth" "I", Cond.methodLink RX1 38 yX1_copyWords, Cond.static yX1_copyWords, Cond.code yX1_copyWords cX1_copyWords 3 none, Cond.methodLink RX1 61 yX1_startChunk, Cond.instanceMethod yX1_startChunk, Cond.selects RX1 yX1_startChunk yX1_startChunk]
def wsX4_prove_r4 : List Cond := [Cond.code yX1_startChunk cX1_startChunk 1 none, Cond.fieldLink RX1 25 "TreeHashes$Hasher" "chunkChain" "[I", Cond.fieldLink RX1 64 "TreeHashes$Hasher" "blocks" "I", Cond.methodLink RX1 104 yX1_startBlock, Cond.instanceMethod yX1_startBlock, Cond.selects RX1 yX1_startBlock yX1_startBlock, Cond.code yX1_startBlock cX1_startBlock 2 none, Cond.fieldLink RX1 28 "TreeHashes$Hasher" "block" "[I", Cond.fieldLink RX1 67 "TreeHashes$Hasher" "inBlock" "I", Cond.methodLink RX4 92 yX1_absorb, Cond.instanceMethod yX1_absorb, Cond.selects RX1 yX1_absorb yX1_absorb, Cond.code yX1_absorb cX1_absorb 5 none, Cond.methodLink RX1 70 yX0_byteAt, Cond.methodLink RX1 76 yX1_absorbByte, Cond.instanceMethod yX1_absorbByte, Cond.selects RX1 yX1_absorbByte yX1_absorbByte, Cond.code yX1_absorbByte cX1_absorbByte 2 none, Cond.methodLink RX1 80 yX1_closeChunk, Cond.instanceMethod yX1_closeChunk, Cond.selects RX1 yX1_closeChunk yX1_closeChunk, Cond.code yX1_closeChunk cX1_closeChunk 2 none, Cond.fieldLink RX1 14 "TreeHashes$Hasher" "mix" "LTreeHashes$Mix;", Cond.fieldLink RX1 22 "TreeHashes$Hasher" "stack" "[I"]
def wsX4_prove_r5 : List Cond := [Cond.methodLink RX1 86 yX1_prepareBlock, Cond.instanceMethod yX1_prepareBlock, Cond.selects RX1 yX1_prepareBlock yX1_prepareBlock, Cond.code yX1_prepareBlock cX1_prepareBlock 3 none, Cond.methodLink RX1 96 yX2_prepare, Cond.instanceMethod yX2_prepare, Cond.selects RX2 yX2_prepare yX2_prepare, Cond.initialized RX2, Cond.code yX2_prepare cX2_prepare 8 none, Cond.fieldLink RX2 9 "TreeHashes$Mix" "chain" "[I", Cond.fieldLink RX2 15 "TreeHashes$Mix" "block" "[I", Cond.fieldLink RX2 27 "TreeHashes$Mix" "count" "J", Cond.fieldLink RX2 31 "TreeHashes$Mix" "length" "I", Cond.fieldLink RX2 35 "TreeHashes$Mix" "flags" "I", Cond.methodLink RX1 89 yX2_run, Cond.instanceMethod yX2_run, Cond.selects RX2 yX2_run yX2_run, Cond.code yX2_run cX2_run 2 none, Cond.fieldLink RX2 21 "TreeHashes$Mix" "w" "[I", Cond.fieldLink RX2 18 "TreeHashes$Mix" "v" "[I", Cond.methodLink RX2 66 yX2_fillIn, Cond.instanceMethod yX2_fillIn, Cond.selects RX2 yX2_fillIn yX2_fillIn, Cond.code yX2_fillIn cX2_fillIn 2 none]
def wsX4_prove_r6 : List Cond := [Cond.fieldLink RX2 76 "TreeHashes$Mix" "START" "[I", Cond.methodLink RX2 69 yX2_turn, Cond.instanceMethod yX2_turn, Cond.selects RX2 yX2_turn yX2_turn, Cond.code yX2_turn cX2_turn 11 none, Cond.methodLink RX2 73 yX2_reorder, Cond.instanceMethod yX2_reorder, Cond.selects RX2 yX2_reorder yX2_reorder, Cond.code yX2_reorder cX2_reorder 2 none, Cond.fieldLink RX2 24 "TreeHashes$Mix" "nextW" "[I", Cond.fieldLink RX2 79 "TreeHashes$Mix" "ORDER" "[I", Cond.methodLink RX1 92 yX2_joinBehind, Cond.instanceMethod yX2_joinBehind, Cond.selects RX2 yX2_joinBehind yX2_joinBehind, Cond.code yX2_joinBehind cX2_joinBehind 6 none, Cond.methodLink RX2 38 yX2_prepare, Cond.methodLink RX1 100 yX2_writeChain, Cond.instanceMethod yX2_writeChain, Cond.selects RX2 yX2_writeChain yX2_writeChain, Cond.code yX2_writeChain cX2_writeChain 4 none, Cond.methodLink RX1 83 yX1_closeBlock, Cond.instanceMethod yX1_closeBlock, Cond.selects RX1 yX1_closeBlock yX1_closeBlock, Cond.code yX1_closeBlock cX1_closeBlock 1 none]
def wsX4_prove_r7 : List Cond := [Cond.methodLink RX4 101 yX1_prepareLast, Cond.instanceMethod yX1_prepareLast, Cond.selects RX1 yX1_prepareLast yX1_prepareLast, Cond.code yX1_prepareLast cX1_prepareLast 2 none, Cond.methodLink RX4 171 yX2_run, Cond.methodLink RX4 174 yX2_writeChain, Cond.methodLink RX4 178 yX0_appendChain, Cond.instanceMethod yX0_appendChain, Cond.selects RX0 yX0_appendChain yX0_appendChain, Cond.code yX0_appendChain cX0_appendChain 3 none]
def wsX4_prove : List Cond := .code yX4_prove cX4_prove 5 (some .int) :: ((wsX4_prove_r1 ++ (wsX4_prove_r2 ++ (wsX4_prove_r3 ++ (wsX4_prove_r4 ++ (wsX4_prove_r5 ++ (wsX4_prove_r6 ++ wsX4_prove_r7)))))) ++ wsX40 ++ wsX00 ++ wsX30 ++ wsX10 ++ wsX20)
def wsX4_proof : List Cond := .code yX4_proof cX4_proof 2 (some .int) :: ([.fieldLink RX4 28 "TreeHashes" "proven" "LTreeHashes$Bytes;", .methodLink RX4 65 yX0_byteAt, .instanceMethod yX0_byteAt, .selects RX0 yX0_byteAt yX0_byteAt, .initialized RX0, .code yX0_byteAt cX0_byteAt 2 (some .int), .fieldLink RX0 21 "TreeHashes$Bytes" "count" "I", .fieldLink RX0 15 "TreeHashes$Bytes" "row" "[B"] ++ wsX40 ++ wsX00)
def wsX4_forge : List Cond := .code yX4_forge cX4_forge 3 (some .int) :: ([.fieldLink RX4 28 "TreeHashes" "proven" "LTreeHashes$Bytes;", .methodLink RX4 133 yX0_change, .instanceMethod yX0_change, .selects RX0 yX0_change yX0_change, .initialized RX0, .code yX0_change cX0_change 3 (some .int), .fieldLink RX0 21 "TreeHashes$Bytes" "count" "I", .fieldLink RX0 15 "TreeHashes$Bytes" "row" "[B"] ++ wsX40 ++ wsX00)
def wsX4_cut : List Cond := .code yX4_cut cX4_cut 2 (some .int) :: ([.fieldLink RX4 28 "TreeHashes" "proven" "LTreeHashes$Bytes;", .methodLink RX4 61 yX0_keepFirst, .instanceMethod yX0_keepFirst, .selects RX0 yX0_keepFirst yX0_keepFirst, .initialized RX0, .code yX0_keepFirst cX0_keepFirst 3 (some .int), .fieldLink RX0 21 "TreeHashes$Bytes" "count" "I"] ++ wsX40 ++ wsX00)
def wsX4_climb_r1 : List Cond := [Cond.fieldLink RX4 39 "TreeHashes" "way" "LTreeHashes$Way;", Cond.fieldLink RX4 28 "TreeHashes" "proven" "LTreeHashes$Bytes;", Cond.fieldLink RX4 43 "TreeHashes" "words" "[I", Cond.fieldLink RX4 32 "TreeHashes" "worker" "LTreeHashes$Hasher;", Cond.fieldLink RX4 71 "TreeHashes$Mix" "START" "[I", Cond.methodLink RX4 80 yX0_readChain, Cond.instanceMethod yX0_readChain, Cond.selects RX0 yX0_readChain yX0_readChain, Cond.initialized RX0, Cond.code yX0_readChain cX0_readChain 4 none, Cond.methodLink RX0 33 yX0_wordAt, Cond.instanceMethod yX0_wordAt, Cond.selects RX0 yX0_wordAt yX0_wordAt, Cond.code yX0_wordAt cX0_wordAt 2 (some .int), Cond.methodLink RX0 29 yX0_byteAt, Cond.instanceMethod yX0_byteAt, Cond.selects RX0 yX0_byteAt yX0_byteAt, Cond.code yX0_byteAt cX0_byteAt 2 (some .int), Cond.fieldLink RX0 21 "TreeHashes$Bytes" "count" "I", Cond.fieldLink RX0 15 "TreeHashes$Bytes" "row" "[B", Cond.methodLink RX4 171 yX2_run, Cond.instanceMethod yX2_run, Cond.selects RX2 yX2_run yX2_run, Cond.initialized RX2]
def wsX4_climb_r2 : List Cond := [Cond.code yX2_run cX2_run 2 none, Cond.fieldLink RX2 21 "TreeHashes$Mix" "w" "[I", Cond.fieldLink RX2 18 "TreeHashes$Mix" "v" "[I", Cond.fieldLink RX2 9 "TreeHashes$Mix" "chain" "[I", Cond.methodLink RX2 66 yX2_fillIn, Cond.instanceMethod yX2_fillIn, Cond.selects RX2 yX2_fillIn yX2_fillIn, Cond.code yX2_fillIn cX2_fillIn 2 none, Cond.fieldLink RX2 76 "TreeHashes$Mix" "START" "[I", Cond.fieldLink RX2 27 "TreeHashes$Mix" "count" "J", Cond.fieldLink RX2 31 "TreeHashes$Mix" "length" "I", Cond.fieldLink RX2 35 "TreeHashes$Mix" "flags" "I", Cond.fieldLink RX2 15 "TreeHashes$Mix" "block" "[I", Cond.methodLink RX2 69 yX2_turn, Cond.instanceMethod yX2_turn, Cond.selects RX2 yX2_turn yX2_turn, Cond.code yX2_turn cX2_turn 11 none, Cond.methodLink RX2 73 yX2_reorder, Cond.instanceMethod yX2_reorder, Cond.selects RX2 yX2_reorder yX2_reorder, Cond.code yX2_reorder cX2_reorder 2 none, Cond.fieldLink RX2 24 "TreeHashes$Mix" "nextW" "[I", Cond.fieldLink RX2 79 "TreeHashes$Mix" "ORDER" "[I", Cond.methodLink RX4 193 yX2_joinBehind]
def wsX4_climb_r3 : List Cond := [Cond.instanceMethod yX2_joinBehind, Cond.selects RX2 yX2_joinBehind yX2_joinBehind, Cond.code yX2_joinBehind cX2_joinBehind 6 none, Cond.methodLink RX2 38 yX2_prepare, Cond.instanceMethod yX2_prepare, Cond.selects RX2 yX2_prepare yX2_prepare, Cond.code yX2_prepare cX2_prepare 8 none, Cond.methodLink RX4 197 yX2_joinBefore, Cond.instanceMethod yX2_joinBefore, Cond.selects RX2 yX2_joinBefore yX2_joinBefore, Cond.code yX2_joinBefore cX2_joinBefore 6 none]
def wsX4_climb : List Cond := .code yX4_climb cX4_climb 4 none :: ((wsX4_climb_r1 ++ (wsX4_climb_r2 ++ wsX4_climb_r3)) ++ wsX40 ++ wsX30 ++ wsX10 ++ wsX00 ++ wsX20)
def wsX4_check_r1 : List Cond := [Cond.fieldLink RX4 11 "TreeHashes" "registers" "[LTreeHashes$Bytes;", Cond.constant RX4 182 (1000000), Cond.fieldLink RX4 39 "TreeHashes" "way" "LTreeHashes$Way;", Cond.fieldLink RX4 28 "TreeHashes" "proven" "LTreeHashes$Bytes;", Cond.fieldLink RX4 32 "TreeHashes" "worker" "LTreeHashes$Hasher;", Cond.methodLink RX4 47 yX4_isRegister, Cond.static yX4_isRegister, Cond.initialized RX4, Cond.code yX4_isRegister cX4_isRegister 1 (some .boolean), Cond.methodLink RX4 140 yX4_hasChunk, Cond.static yX4_hasChunk, Cond.code yX4_hasChunk cX4_hasChunk 2 (some .boolean), Cond.methodLink RX4 150 yX4_chunksOf, Cond.static yX4_chunksOf, Cond.code yX4_chunksOf cX4_chunksOf 1 (some .int), Cond.methodLink RX4 153 yX3_lead, Cond.instanceMethod yX3_lead, Cond.selects RX3 yX3_lead yX3_lead, Cond.initialized RX3, Cond.code yX3_lead cX3_lead 6 none, Cond.fieldLink RX3 16 "TreeHashes$Way" "levels" "I", Cond.fieldLink RX3 9 "TreeHashes$Way" "otherFirst" "[I", Cond.fieldLink RX3 13 "TreeHashes$Way" "otherChunks" "[I", Cond.methodLink RX3 20 yX3_leftOf]
def wsX4_check_r2 : List Cond := [Cond.static yX3_leftOf, Cond.code yX3_leftOf cX3_leftOf 3 (some .int), Cond.methodLink RX4 144 yX4_chunkLength, Cond.static yX4_chunkLength, Cond.code yX4_chunkLength cX4_chunkLength 2 (some .int), Cond.methodLink RX4 166 Lib.Math.min.name, Cond.static Lib.Math.min.name, Cond.initialized "java/lang/Math", Cond.code Lib.Math.min.name Lib.Math.min.code 2 (some .int), Cond.methodLink RX4 136 yX4_prepareTree, Cond.instanceMethod yX4_prepareTree, Cond.selects RX4 yX4_prepareTree yX4_prepareTree, Cond.code yX4_prepareTree cX4_prepareTree 5 none, Cond.fieldLink RX4 71 "TreeHashes$Mix" "START" "[I", Cond.methodLink RX4 76 yX1_restart, Cond.instanceMethod yX1_restart, Cond.selects RX1 yX1_restart yX1_restart, Cond.initialized RX1, Cond.code yX1_restart cX1_restart 5 none, Cond.fieldLink RX1 18 "TreeHashes$Hasher" "key" "[I", Cond.fieldLink RX1 42 "TreeHashes$Hasher" "mode" "I", Cond.fieldLink RX1 46 "TreeHashes$Hasher" "base" "I", Cond.fieldLink RX1 49 "TreeHashes$Hasher" "firstChunk" "I", Cond.fieldLink RX1 52 "TreeHashes$Hasher" "taken" "I"]
def wsX4_check_r3 : List Cond := [Cond.fieldLink RX1 55 "TreeHashes$Hasher" "closed" "I", Cond.fieldLink RX1 58 "TreeHashes$Hasher" "depth" "I", Cond.methodLink RX1 38 yX1_copyWords, Cond.static yX1_copyWords, Cond.code yX1_copyWords cX1_copyWords 3 none, Cond.methodLink RX1 61 yX1_startChunk, Cond.instanceMethod yX1_startChunk, Cond.selects RX1 yX1_startChunk yX1_startChunk, Cond.code yX1_startChunk cX1_startChunk 1 none, Cond.fieldLink RX1 25 "TreeHashes$Hasher" "chunkChain" "[I", Cond.fieldLink RX1 64 "TreeHashes$Hasher" "blocks" "I", Cond.methodLink RX1 104 yX1_startBlock, Cond.instanceMethod yX1_startBlock, Cond.selects RX1 yX1_startBlock yX1_startBlock, Cond.code yX1_startBlock cX1_startBlock 2 none, Cond.fieldLink RX1 28 "TreeHashes$Hasher" "block" "[I", Cond.fieldLink RX1 67 "TreeHashes$Hasher" "inBlock" "I", Cond.methodLink RX4 92 yX1_absorb, Cond.instanceMethod yX1_absorb, Cond.selects RX1 yX1_absorb yX1_absorb, Cond.code yX1_absorb cX1_absorb 5 none, Cond.methodLink RX1 70 yX0_byteAt, Cond.instanceMethod yX0_byteAt, Cond.selects RX0 yX0_byteAt yX0_byteAt]
def wsX4_check_r4 : List Cond := [Cond.initialized RX0, Cond.code yX0_byteAt cX0_byteAt 2 (some .int), Cond.fieldLink RX0 21 "TreeHashes$Bytes" "count" "I", Cond.fieldLink RX0 15 "TreeHashes$Bytes" "row" "[B", Cond.methodLink RX1 76 yX1_absorbByte, Cond.instanceMethod yX1_absorbByte, Cond.selects RX1 yX1_absorbByte yX1_absorbByte, Cond.code yX1_absorbByte cX1_absorbByte 2 none, Cond.methodLink RX1 80 yX1_closeChunk, Cond.instanceMethod yX1_closeChunk, Cond.selects RX1 yX1_closeChunk yX1_closeChunk, Cond.code yX1_closeChunk cX1_closeChunk 2 none, Cond.fieldLink RX1 14 "TreeHashes$Hasher" "mix" "LTreeHashes$Mix;", Cond.fieldLink RX1 22 "TreeHashes$Hasher" "stack" "[I", Cond.methodLink RX1 86 yX1_prepareBlock, Cond.instanceMethod yX1_prepareBlock, Cond.selects RX1 yX1_prepareBlock yX1_prepareBlock, Cond.code yX1_prepareBlock cX1_prepareBlock 3 none, Cond.methodLink RX1 96 yX2_prepare, Cond.instanceMethod yX2_prepare, Cond.selects RX2 yX2_prepare yX2_prepare, Cond.initialized RX2, Cond.code yX2_prepare cX2_prepare 8 none, Cond.fieldLink RX2 9 "TreeHashes$Mix" "chain" "[I"]
def wsX4_check_r5 : List Cond := [Cond.fieldLink RX2 15 "TreeHashes$Mix" "block" "[I", Cond.fieldLink RX2 27 "TreeHashes$Mix" "count" "J", Cond.fieldLink RX2 31 "TreeHashes$Mix" "length" "I", Cond.fieldLink RX2 35 "TreeHashes$Mix" "flags" "I", Cond.methodLink RX1 89 yX2_run, Cond.instanceMethod yX2_run, Cond.selects RX2 yX2_run yX2_run, Cond.code yX2_run cX2_run 2 none, Cond.fieldLink RX2 21 "TreeHashes$Mix" "w" "[I", Cond.fieldLink RX2 18 "TreeHashes$Mix" "v" "[I", Cond.methodLink RX2 66 yX2_fillIn, Cond.instanceMethod yX2_fillIn, Cond.selects RX2 yX2_fillIn yX2_fillIn, Cond.code yX2_fillIn cX2_fillIn 2 none, Cond.fieldLink RX2 76 "TreeHashes$Mix" "START" "[I", Cond.methodLink RX2 69 yX2_turn, Cond.instanceMethod yX2_turn, Cond.selects RX2 yX2_turn yX2_turn, Cond.code yX2_turn cX2_turn 11 none, Cond.methodLink RX2 73 yX2_reorder, Cond.instanceMethod yX2_reorder, Cond.selects RX2 yX2_reorder yX2_reorder, Cond.code yX2_reorder cX2_reorder 2 none, Cond.fieldLink RX2 24 "TreeHashes$Mix" "nextW" "[I"]
def wsX4_check_r6 : List Cond := [Cond.fieldLink RX2 79 "TreeHashes$Mix" "ORDER" "[I", Cond.methodLink RX1 92 yX2_joinBehind, Cond.instanceMethod yX2_joinBehind, Cond.selects RX2 yX2_joinBehind yX2_joinBehind, Cond.code yX2_joinBehind cX2_joinBehind 6 none, Cond.methodLink RX2 38 yX2_prepare, Cond.methodLink RX1 100 yX2_writeChain, Cond.instanceMethod yX2_writeChain, Cond.selects RX2 yX2_writeChain yX2_writeChain, Cond.code yX2_writeChain cX2_writeChain 4 none, Cond.methodLink RX1 83 yX1_closeBlock, Cond.instanceMethod yX1_closeBlock, Cond.selects RX1 yX1_closeBlock yX1_closeBlock, Cond.code yX1_closeBlock cX1_closeBlock 1 none, Cond.methodLink RX4 101 yX1_prepareLast, Cond.instanceMethod yX1_prepareLast, Cond.selects RX1 yX1_prepareLast yX1_prepareLast, Cond.code yX1_prepareLast cX1_prepareLast 2 none, Cond.methodLink RX4 183 yX4_climb, Cond.instanceMethod yX4_climb, Cond.selects RX4 yX4_climb yX4_climb, Cond.code yX4_climb cX4_climb 4 none, Cond.fieldLink RX4 43 "TreeHashes" "words" "[I", Cond.methodLink RX4 80 yX0_readChain]
def wsX4_check_r7 : List Cond := [Cond.instanceMethod yX0_readChain, Cond.selects RX0 yX0_readChain yX0_readChain, Cond.code yX0_readChain cX0_readChain 4 none, Cond.methodLink RX0 33 yX0_wordAt, Cond.instanceMethod yX0_wordAt, Cond.selects RX0 yX0_wordAt yX0_wordAt, Cond.code yX0_wordAt cX0_wordAt 2 (some .int), Cond.methodLink RX0 29 yX0_byteAt, Cond.methodLink RX4 171 yX2_run, Cond.methodLink RX4 193 yX2_joinBehind, Cond.methodLink RX4 197 yX2_joinBefore, Cond.instanceMethod yX2_joinBefore, Cond.selects RX2 yX2_joinBefore yX2_joinBefore, Cond.code yX2_joinBefore cX2_joinBefore 6 none, Cond.methodLink RX4 186 yX2_rootBeginsWith, Cond.instanceMethod yX2_rootBeginsWith, Cond.selects RX2 yX2_rootBeginsWith yX2_rootBeginsWith, Cond.code yX2_rootBeginsWith cX2_rootBeginsWith 3 (some .boolean), Cond.methodLink RX2 48 yX2_makeRoot, Cond.instanceMethod yX2_makeRoot, Cond.selects RX2 yX2_makeRoot yX2_makeRoot, Cond.code yX2_makeRoot cX2_makeRoot 1 none, Cond.methodLink RX2 53 yX2_run, Cond.methodLink RX2 56 yX2_outputByte]
def wsX4_check_r8 : List Cond := [Cond.instanceMethod yX2_outputByte, Cond.selects RX2 yX2_outputByte yX2_outputByte, Cond.code yX2_outputByte cX2_outputByte 2 (some .int), Cond.methodLink RX2 63 yX0_byteAt]
def wsX4_check : List Cond := .code yX4_check cX4_check 5 (some .int) :: ((wsX4_check_r1 ++ (wsX4_check_r2 ++ (wsX4_check_r3 ++ (wsX4_check_r4 ++ (wsX4_check_r5 ++ (wsX4_check_r6 ++ (wsX4_check_r7 ++ wsX4_check_r8))))))) ++ wsX40 ++ wsX00 ++ wsX30 ++ wsX10 ++ wsX20)
def wsX5_plain : List Cond := .code yX5_plain cX5_plain 3 none :: ([.fieldLink RX5 26 "TreeHashesModel" "keys" "[I", .fieldLink RX5 41 "TreeHashesModel" "start" "[I"] ++ wsX50)
def wsX5_init_r1 : List Cond := [Cond.methodLink RX5 1 objectInit, Cond.instanceMethod objectInit, Cond.code objectInit ⟨#[0xb1]⟩ 1 none, Cond.arrayClass .int, Cond.fieldLink RX5 7 "TreeHashesModel" "registers" "[I", Cond.fieldLink RX5 13 "TreeHashesModel" "sizes" "[I", Cond.constant RX5 16 (160000), Cond.fieldLink RX5 17 "TreeHashesModel" "taken" "[I", Cond.fieldLink RX5 20 "TreeHashesModel" "count" "[I", Cond.fieldLink RX5 23 "TreeHashesModel" "mode" "[I", Cond.fieldLink RX5 26 "TreeHashesModel" "keys" "[I", Cond.fieldLink RX5 29 "TreeHashesModel" "chains" "[I", Cond.fieldLink RX5 32 "TreeHashesModel" "made" "[I", Cond.fieldLink RX5 35 "TreeHashesModel" "file" "[I", Cond.fieldLink RX5 38 "TreeHashesModel" "proof" "[I", Cond.fieldLink RX5 41 "TreeHashesModel" "start" "[I", Cond.fieldLink RX5 44 "TreeHashesModel" "key" "[I", Cond.fieldLink RX5 47 "TreeHashesModel" "chain" "[I", Cond.fieldLink RX5 50 "TreeHashesModel" "block" "[I", Cond.fieldLink RX5 53 "TreeHashesModel" "v" "[I", Cond.fieldLink RX5 56 "TreeHashesModel" "w" "[I", Cond.fieldLink RX5 59 "TreeHashesModel" "old" "[I", Cond.fieldLink RX5 62 "TreeHashesModel" "order" "[I", Cond.fieldLink RX5 65 "TreeHashesModel" "pile" "[I"]
def wsX5_init_r2 : List Cond := [Cond.arrayClass .boolean, Cond.fieldLink RX5 68 "TreeHashesModel" "isLeft" "[Z", Cond.constant RX5 72 (1779033703), Cond.constant RX5 73 (-1150833019), Cond.constant RX5 74 (1013904242), Cond.constant RX5 75 (-1521486534), Cond.constant RX5 76 (1359893119), Cond.constant RX5 77 (-1694144372), Cond.constant RX5 78 (528734635), Cond.constant RX5 79 (1541459225), Cond.constantLong RX5 80 (-8076822537876036766), Cond.constantLong RX5 82 (15), Cond.methodLink RX5 84 yX5_plain, Cond.instanceMethod yX5_plain, Cond.selects RX5 yX5_plain yX5_plain, Cond.initialized RX5, Cond.code yX5_plain cX5_plain 3 none]
def wsX5_init : List Cond := .code yX5_init cX5_init 4 none :: ((wsX5_init_r1 ++ wsX5_init_r2) ++ wsX50)
def wsX5_in : List Cond := .code yX5_in cX5_in 6 (some .boolean) :: ([])
def wsX5_turned : List Cond := .code yX5_turned cX5_turned 2 (some .int) :: ([])
def wsX5_turn : List Cond := .code yX5_turn cX5_turn 6 none :: ([.fieldLink RX5 53 "TreeHashesModel" "v" "[I", .fieldLink RX5 56 "TreeHashesModel" "w" "[I", .methodLink RX5 88 yX5_turned, .static yX5_turned, .initialized RX5, .code yX5_turned cX5_turned 2 (some .int)] ++ wsX50)
def wsX5_mix : List Cond := .code yX5_mix cX5_mix 6 none :: ([.fieldLink RX5 53 "TreeHashesModel" "v" "[I", .fieldLink RX5 47 "TreeHashesModel" "chain" "[I", .fieldLink RX5 41 "TreeHashesModel" "start" "[I", .fieldLink RX5 92 "TreeHashesModel" "blockLength" "I", .fieldLink RX5 56 "TreeHashesModel" "w" "[I", .fieldLink RX5 50 "TreeHashesModel" "block" "[I", .fieldLink RX5 59 "TreeHashesModel" "old" "[I", .fieldLink RX5 62 "TreeHashesModel" "order" "[I", .methodLink RX5 96 yX5_turn, .instanceMethod yX5_turn, .selects RX5 yX5_turn yX5_turn, .initialized RX5, .code yX5_turn cX5_turn 6 none, .methodLink RX5 88 yX5_turned, .static yX5_turned, .code yX5_turned cX5_turned 2 (some .int)] ++ wsX50)
def wsX5_mixIn : List Cond := .code yX5_mixIn cX5_mixIn 2 none :: ([.fieldLink RX5 100 "TreeHashesModel" "number" "J", .fieldLink RX5 104 "TreeHashesModel" "flags" "I", .fieldLink RX5 47 "TreeHashesModel" "chain" "[I", .fieldLink RX5 53 "TreeHashesModel" "v" "[I", .methodLink RX5 107 yX5_mix, .instanceMethod yX5_mix, .selects RX5 yX5_mix yX5_mix, .initialized RX5, .code yX5_mix cX5_mix 6 none, .fieldLink RX5 41 "TreeHashesModel" "start" "[I", .fieldLink RX5 92 "TreeHashesModel" "blockLength" "I", .fieldLink RX5 56 "TreeHashesModel" "w" "[I", .fieldLink RX5 50 "TreeHashesModel" "block" "[I", .fieldLink RX5 59 "TreeHashesModel" "old" "[I", .fieldLink RX5 62 "TreeHashesModel" "order" "[I", .methodLink RX5 96 yX5_turn, .instanceMethod yX5_turn, .selects RX5 yX5_turn yX5_turn, .code yX5_turn cX5_turn 6 none, .methodLink RX5 88 yX5_turned, .static yX5_turned, .code yX5_turned cX5_turned 2 (some .int)] ++ wsX50)
def wsX5_chunk_r1 : List Cond := [Cond.fieldLink RX5 47 "TreeHashesModel" "chain" "[I", Cond.fieldLink RX5 44 "TreeHashesModel" "key" "[I", Cond.fieldLink RX5 100 "TreeHashesModel" "number" "J", Cond.fieldLink RX5 92 "TreeHashesModel" "blockLength" "I", Cond.fieldLink RX5 50 "TreeHashesModel" "block" "[I", Cond.fieldLink RX5 114 "TreeHashesModel" "base" "I", Cond.fieldLink RX5 104 "TreeHashesModel" "flags" "I", Cond.methodLink RX5 111 yX5_mixIn, Cond.instanceMethod yX5_mixIn, Cond.selects RX5 yX5_mixIn yX5_mixIn, Cond.initialized RX5, Cond.code yX5_mixIn cX5_mixIn 2 none, Cond.fieldLink RX5 53 "TreeHashesModel" "v" "[I", Cond.methodLink RX5 107 yX5_mix, Cond.instanceMethod yX5_mix, Cond.selects RX5 yX5_mix yX5_mix, Cond.code yX5_mix cX5_mix 6 none, Cond.fieldLink RX5 41 "TreeHashesModel" "start" "[I", Cond.fieldLink RX5 56 "TreeHashesModel" "w" "[I", Cond.fieldLink RX5 59 "TreeHashesModel" "old" "[I", Cond.fieldLink RX5 62 "TreeHashesModel" "order" "[I", Cond.methodLink RX5 96 yX5_turn, Cond.instanceMethod yX5_turn, Cond.selects RX5 yX5_turn yX5_turn]
def wsX5_chunk_r2 : List Cond := [Cond.code yX5_turn cX5_turn 6 none, Cond.methodLink RX5 88 yX5_turned, Cond.static yX5_turned, Cond.code yX5_turned cX5_turned 2 (some .int)]
def wsX5_chunk : List Cond := .code yX5_chunk cX5_chunk 9 none :: ((wsX5_chunk_r1 ++ wsX5_chunk_r2) ++ wsX50)
def wsX5_parent : List Cond := .code yX5_parent cX5_parent 2 none :: ([.fieldLink RX5 117 "TreeHashesModel" "high" "I", .fieldLink RX5 50 "TreeHashesModel" "block" "[I", .fieldLink RX5 65 "TreeHashesModel" "pile" "[I", .fieldLink RX5 47 "TreeHashesModel" "chain" "[I", .fieldLink RX5 44 "TreeHashesModel" "key" "[I", .fieldLink RX5 100 "TreeHashesModel" "number" "J", .fieldLink RX5 92 "TreeHashesModel" "blockLength" "I", .fieldLink RX5 114 "TreeHashesModel" "base" "I", .fieldLink RX5 104 "TreeHashesModel" "flags" "I"] ++ wsX50)
def wsX5_close_r1 : List Cond := [Cond.fieldLink RX5 120 "TreeHashesModel" "closed" "I", Cond.fieldLink RX5 65 "TreeHashesModel" "pile" "[I", Cond.fieldLink RX5 117 "TreeHashesModel" "high" "I", Cond.fieldLink RX5 47 "TreeHashesModel" "chain" "[I", Cond.methodLink RX5 123 yX5_parent, Cond.instanceMethod yX5_parent, Cond.selects RX5 yX5_parent yX5_parent, Cond.initialized RX5, Cond.code yX5_parent cX5_parent 2 none, Cond.fieldLink RX5 50 "TreeHashesModel" "block" "[I", Cond.fieldLink RX5 44 "TreeHashesModel" "key" "[I", Cond.fieldLink RX5 100 "TreeHashesModel" "number" "J", Cond.fieldLink RX5 92 "TreeHashesModel" "blockLength" "I", Cond.fieldLink RX5 114 "TreeHashesModel" "base" "I", Cond.fieldLink RX5 104 "TreeHashesModel" "flags" "I", Cond.methodLink RX5 111 yX5_mixIn, Cond.instanceMethod yX5_mixIn, Cond.selects RX5 yX5_mixIn yX5_mixIn, Cond.code yX5_mixIn cX5_mixIn 2 none, Cond.fieldLink RX5 53 "TreeHashesModel" "v" "[I", Cond.methodLink RX5 107 yX5_mix, Cond.instanceMethod yX5_mix, Cond.selects RX5 yX5_mix yX5_mix, Cond.code yX5_mix cX5_mix 6 none]
def wsX5_close_r2 : List Cond := [Cond.fieldLink RX5 41 "TreeHashesModel" "start" "[I", Cond.fieldLink RX5 56 "TreeHashesModel" "w" "[I", Cond.fieldLink RX5 59 "TreeHashesModel" "old" "[I", Cond.fieldLink RX5 62 "TreeHashesModel" "order" "[I", Cond.methodLink RX5 96 yX5_turn, Cond.instanceMethod yX5_turn, Cond.selects RX5 yX5_turn yX5_turn, Cond.code yX5_turn cX5_turn 6 none, Cond.methodLink RX5 88 yX5_turned, Cond.static yX5_turned, Cond.code yX5_turned cX5_turned 2 (some .int)]
def wsX5_close : List Cond := .code yX5_close cX5_close 2 none :: ((wsX5_close_r1 ++ wsX5_close_r2) ++ wsX50)
def wsX5_beginPile : List Cond := .code yX5_beginPile cX5_beginPile 1 none :: ([.fieldLink RX5 117 "TreeHashesModel" "high" "I", .fieldLink RX5 120 "TreeHashesModel" "closed" "I"] ++ wsX50)
def wsX5_chunksOf : List Cond := .code yX5_chunksOf cX5_chunksOf 1 (some .int) :: ([])
def wsX5_chunkSize : List Cond := .code yX5_chunkSize cX5_chunkSize 2 (some .int) :: ([])
def wsX5_tree_r1 : List Cond := [Cond.fieldLink RX5 117 "TreeHashesModel" "high" "I", Cond.methodLink RX5 126 yX5_beginPile, Cond.instanceMethod yX5_beginPile, Cond.selects RX5 yX5_beginPile yX5_beginPile, Cond.initialized RX5, Cond.code yX5_beginPile cX5_beginPile 1 none, Cond.fieldLink RX5 120 "TreeHashesModel" "closed" "I", Cond.methodLink RX5 129 yX5_chunkSize, Cond.static yX5_chunkSize, Cond.code yX5_chunkSize cX5_chunkSize 2 (some .int), Cond.methodLink RX5 132 yX5_chunk, Cond.instanceMethod yX5_chunk, Cond.selects RX5 yX5_chunk yX5_chunk, Cond.code yX5_chunk cX5_chunk 9 none, Cond.fieldLink RX5 47 "TreeHashesModel" "chain" "[I", Cond.fieldLink RX5 44 "TreeHashesModel" "key" "[I", Cond.fieldLink RX5 100 "TreeHashesModel" "number" "J", Cond.fieldLink RX5 92 "TreeHashesModel" "blockLength" "I", Cond.fieldLink RX5 50 "TreeHashesModel" "block" "[I", Cond.fieldLink RX5 114 "TreeHashesModel" "base" "I", Cond.fieldLink RX5 104 "TreeHashesModel" "flags" "I", Cond.methodLink RX5 111 yX5_mixIn, Cond.instanceMethod yX5_mixIn, Cond.selects RX5 yX5_mixIn yX5_mixIn]
def wsX5_tree_r2 : List Cond := [Cond.code yX5_mixIn cX5_mixIn 2 none, Cond.fieldLink RX5 53 "TreeHashesModel" "v" "[I", Cond.methodLink RX5 107 yX5_mix, Cond.instanceMethod yX5_mix, Cond.selects RX5 yX5_mix yX5_mix, Cond.code yX5_mix cX5_mix 6 none, Cond.fieldLink RX5 41 "TreeHashesModel" "start" "[I", Cond.fieldLink RX5 56 "TreeHashesModel" "w" "[I", Cond.fieldLink RX5 59 "TreeHashesModel" "old" "[I", Cond.fieldLink RX5 62 "TreeHashesModel" "order" "[I", Cond.methodLink RX5 96 yX5_turn, Cond.instanceMethod yX5_turn, Cond.selects RX5 yX5_turn yX5_turn, Cond.code yX5_turn cX5_turn 6 none, Cond.methodLink RX5 88 yX5_turned, Cond.static yX5_turned, Cond.code yX5_turned cX5_turned 2 (some .int), Cond.methodLink RX5 136 yX5_close, Cond.instanceMethod yX5_close, Cond.selects RX5 yX5_close yX5_close, Cond.code yX5_close cX5_close 2 none, Cond.fieldLink RX5 65 "TreeHashesModel" "pile" "[I", Cond.methodLink RX5 123 yX5_parent, Cond.instanceMethod yX5_parent]
def wsX5_tree_r3 : List Cond := [Cond.selects RX5 yX5_parent yX5_parent, Cond.code yX5_parent cX5_parent 2 none]
def wsX5_tree : List Cond := .code yX5_tree cX5_tree 7 none :: ((wsX5_tree_r1 ++ (wsX5_tree_r2 ++ wsX5_tree_r3)) ++ wsX50)
def wsX5_useKey : List Cond := .code yX5_useKey cX5_useKey 3 none :: ([.fieldLink RX5 44 "TreeHashesModel" "key" "[I", .fieldLink RX5 41 "TreeHashesModel" "start" "[I", .fieldLink RX5 26 "TreeHashesModel" "keys" "[I", .fieldLink RX5 23 "TreeHashesModel" "mode" "[I", .fieldLink RX5 114 "TreeHashesModel" "base" "I"] ++ wsX50)
def wsX5_closedOf : List Cond := .code yX5_closedOf cX5_closedOf 2 (some .int) :: ([.fieldLink RX5 20 "TreeHashesModel" "count" "[I"] ++ wsX50)
def wsX5_pileOf_r1 : List Cond := [Cond.fieldLink RX5 32 "TreeHashesModel" "made" "[I", Cond.fieldLink RX5 17 "TreeHashesModel" "taken" "[I", Cond.constant RX5 146 (40000), Cond.fieldLink RX5 29 "TreeHashesModel" "chains" "[I", Cond.fieldLink RX5 47 "TreeHashesModel" "chain" "[I", Cond.methodLink RX5 139 yX5_useKey, Cond.instanceMethod yX5_useKey, Cond.selects RX5 yX5_useKey yX5_useKey, Cond.initialized RX5, Cond.code yX5_useKey cX5_useKey 3 none, Cond.fieldLink RX5 44 "TreeHashesModel" "key" "[I", Cond.fieldLink RX5 41 "TreeHashesModel" "start" "[I", Cond.fieldLink RX5 26 "TreeHashesModel" "keys" "[I", Cond.fieldLink RX5 23 "TreeHashesModel" "mode" "[I", Cond.fieldLink RX5 114 "TreeHashesModel" "base" "I", Cond.methodLink RX5 142 yX5_closedOf, Cond.instanceMethod yX5_closedOf, Cond.selects RX5 yX5_closedOf yX5_closedOf, Cond.code yX5_closedOf cX5_closedOf 2 (some .int), Cond.fieldLink RX5 20 "TreeHashesModel" "count" "[I", Cond.methodLink RX5 132 yX5_chunk, Cond.instanceMethod yX5_chunk, Cond.selects RX5 yX5_chunk yX5_chunk, Cond.code yX5_chunk cX5_chunk 9 none]
def wsX5_pileOf_r2 : List Cond := [Cond.fieldLink RX5 100 "TreeHashesModel" "number" "J", Cond.fieldLink RX5 92 "TreeHashesModel" "blockLength" "I", Cond.fieldLink RX5 50 "TreeHashesModel" "block" "[I", Cond.fieldLink RX5 104 "TreeHashesModel" "flags" "I", Cond.methodLink RX5 111 yX5_mixIn, Cond.instanceMethod yX5_mixIn, Cond.selects RX5 yX5_mixIn yX5_mixIn, Cond.code yX5_mixIn cX5_mixIn 2 none, Cond.fieldLink RX5 53 "TreeHashesModel" "v" "[I", Cond.methodLink RX5 107 yX5_mix, Cond.instanceMethod yX5_mix, Cond.selects RX5 yX5_mix yX5_mix, Cond.code yX5_mix cX5_mix 6 none, Cond.fieldLink RX5 56 "TreeHashesModel" "w" "[I", Cond.fieldLink RX5 59 "TreeHashesModel" "old" "[I", Cond.fieldLink RX5 62 "TreeHashesModel" "order" "[I", Cond.methodLink RX5 96 yX5_turn, Cond.instanceMethod yX5_turn, Cond.selects RX5 yX5_turn yX5_turn, Cond.code yX5_turn cX5_turn 6 none, Cond.methodLink RX5 88 yX5_turned, Cond.static yX5_turned, Cond.code yX5_turned cX5_turned 2 (some .int), Cond.methodLink RX5 126 yX5_beginPile]
def wsX5_pileOf_r3 : List Cond := [Cond.instanceMethod yX5_beginPile, Cond.selects RX5 yX5_beginPile yX5_beginPile, Cond.code yX5_beginPile cX5_beginPile 1 none, Cond.fieldLink RX5 117 "TreeHashesModel" "high" "I", Cond.fieldLink RX5 120 "TreeHashesModel" "closed" "I", Cond.methodLink RX5 136 yX5_close, Cond.instanceMethod yX5_close, Cond.selects RX5 yX5_close yX5_close, Cond.code yX5_close cX5_close 2 none, Cond.fieldLink RX5 65 "TreeHashesModel" "pile" "[I", Cond.methodLink RX5 123 yX5_parent, Cond.instanceMethod yX5_parent, Cond.selects RX5 yX5_parent yX5_parent, Cond.code yX5_parent cX5_parent 2 none]
def wsX5_pileOf : List Cond := .code yX5_pileOf cX5_pileOf 5 none :: ((wsX5_pileOf_r1 ++ (wsX5_pileOf_r2 ++ wsX5_pileOf_r3)) ++ wsX50)
def wsX5_isRegister : List Cond := .code yX5_isRegister cX5_isRegister 1 (some .boolean) :: ([])
def wsX5_isHasher : List Cond := .code yX5_isHasher cX5_isHasher 1 (some .boolean) :: ([])
def wsX5_add : List Cond := .code yX5_add cX5_add 6 (some .int) :: ([.fieldLink RX5 13 "TreeHashesModel" "sizes" "[I", .fieldLink RX5 7 "TreeHashesModel" "registers" "[I", .constantLong RX5 151 (255), .methodLink RX5 147 yX5_isRegister, .static yX5_isRegister, .initialized RX5, .code yX5_isRegister cX5_isRegister 1 (some .boolean)] ++ wsX50)
def wsX5_clear : List Cond := .code yX5_clear cX5_clear 3 (some .int) :: ([.fieldLink RX5 13 "TreeHashesModel" "sizes" "[I", .methodLink RX5 147 yX5_isRegister, .static yX5_isRegister, .initialized RX5, .code yX5_isRegister cX5_isRegister 1 (some .boolean)] ++ wsX50)
def wsX5_size : List Cond := .code yX5_size cX5_size 2 (some .int) :: ([.fieldLink RX5 13 "TreeHashesModel" "sizes" "[I", .methodLink RX5 147 yX5_isRegister, .static yX5_isRegister, .initialized RX5, .code yX5_isRegister cX5_isRegister 1 (some .boolean)] ++ wsX50)
def wsX5_at : List Cond := .code yX5_at cX5_at 3 (some .int) :: ([.fieldLink RX5 13 "TreeHashesModel" "sizes" "[I", .fieldLink RX5 7 "TreeHashesModel" "registers" "[I", .methodLink RX5 147 yX5_isRegister, .static yX5_isRegister, .initialized RX5, .code yX5_isRegister cX5_isRegister 1 (some .boolean)] ++ wsX50)
def wsX5_wordAt : List Cond := .code yX5_wordAt cX5_wordAt 2 (some .int) :: ([])
def wsX5_begin_r1 : List Cond := [Cond.fieldLink RX5 13 "TreeHashesModel" "sizes" "[I", Cond.fieldLink RX5 20 "TreeHashesModel" "count" "[I", Cond.fieldLink RX5 32 "TreeHashesModel" "made" "[I", Cond.fieldLink RX5 23 "TreeHashesModel" "mode" "[I", Cond.fieldLink RX5 26 "TreeHashesModel" "keys" "[I", Cond.fieldLink RX5 7 "TreeHashesModel" "registers" "[I", Cond.fieldLink RX5 114 "TreeHashesModel" "base" "I", Cond.fieldLink RX5 104 "TreeHashesModel" "flags" "I", Cond.fieldLink RX5 53 "TreeHashesModel" "v" "[I", Cond.methodLink RX5 153 yX5_isHasher, Cond.static yX5_isHasher, Cond.initialized RX5, Cond.code yX5_isHasher cX5_isHasher 1 (some .boolean), Cond.methodLink RX5 147 yX5_isRegister, Cond.static yX5_isRegister, Cond.code yX5_isRegister cX5_isRegister 1 (some .boolean), Cond.methodLink RX5 84 yX5_plain, Cond.instanceMethod yX5_plain, Cond.selects RX5 yX5_plain yX5_plain, Cond.code yX5_plain cX5_plain 3 none, Cond.fieldLink RX5 41 "TreeHashesModel" "start" "[I", Cond.methodLink RX5 156 yX5_wordAt, Cond.static yX5_wordAt, Cond.code yX5_wordAt cX5_wordAt 2 (some .int)]
def wsX5_begin_r2 : List Cond := [Cond.methodLink RX5 139 yX5_useKey, Cond.instanceMethod yX5_useKey, Cond.selects RX5 yX5_useKey yX5_useKey, Cond.code yX5_useKey cX5_useKey 3 none, Cond.fieldLink RX5 44 "TreeHashesModel" "key" "[I", Cond.methodLink RX5 132 yX5_chunk, Cond.instanceMethod yX5_chunk, Cond.selects RX5 yX5_chunk yX5_chunk, Cond.code yX5_chunk cX5_chunk 9 none, Cond.fieldLink RX5 47 "TreeHashesModel" "chain" "[I", Cond.fieldLink RX5 100 "TreeHashesModel" "number" "J", Cond.fieldLink RX5 92 "TreeHashesModel" "blockLength" "I", Cond.fieldLink RX5 50 "TreeHashesModel" "block" "[I", Cond.methodLink RX5 111 yX5_mixIn, Cond.instanceMethod yX5_mixIn, Cond.selects RX5 yX5_mixIn yX5_mixIn, Cond.code yX5_mixIn cX5_mixIn 2 none, Cond.methodLink RX5 107 yX5_mix, Cond.instanceMethod yX5_mix, Cond.selects RX5 yX5_mix yX5_mix, Cond.code yX5_mix cX5_mix 6 none, Cond.fieldLink RX5 56 "TreeHashesModel" "w" "[I", Cond.fieldLink RX5 59 "TreeHashesModel" "old" "[I", Cond.fieldLink RX5 62 "TreeHashesModel" "order" "[I"]
def wsX5_begin_r3 : List Cond := [Cond.methodLink RX5 96 yX5_turn, Cond.instanceMethod yX5_turn, Cond.selects RX5 yX5_turn yX5_turn, Cond.code yX5_turn cX5_turn 6 none, Cond.methodLink RX5 88 yX5_turned, Cond.static yX5_turned, Cond.code yX5_turned cX5_turned 2 (some .int)]
def wsX5_begin : List Cond := .code yX5_begin cX5_begin 5 (some .int) :: ((wsX5_begin_r1 ++ (wsX5_begin_r2 ++ wsX5_begin_r3)) ++ wsX50)
def wsX5_take : List Cond := .code yX5_take cX5_take 4 (some .int) :: ([.fieldLink RX5 20 "TreeHashesModel" "count" "[I", .fieldLink RX5 13 "TreeHashesModel" "sizes" "[I", .constant RX5 146 (40000), .fieldLink RX5 17 "TreeHashesModel" "taken" "[I", .fieldLink RX5 7 "TreeHashesModel" "registers" "[I", .methodLink RX5 153 yX5_isHasher, .static yX5_isHasher, .initialized RX5, .code yX5_isHasher cX5_isHasher 1 (some .boolean), .methodLink RX5 147 yX5_isRegister, .static yX5_isRegister, .code yX5_isRegister cX5_isRegister 1 (some .boolean)] ++ wsX50)
def wsX5_fill : List Cond := .code yX5_fill cX5_fill 6 (some .int) :: ([.fieldLink RX5 20 "TreeHashesModel" "count" "[I", .constant RX5 146 (40000), .fieldLink RX5 17 "TreeHashesModel" "taken" "[I", .methodLink RX5 153 yX5_isHasher, .static yX5_isHasher, .initialized RX5, .code yX5_isHasher cX5_isHasher 1 (some .boolean)] ++ wsX50)
def wsX5_rootOf_r1 : List Cond := [Cond.fieldLink RX5 17 "TreeHashesModel" "taken" "[I", Cond.constant RX5 146 (40000), Cond.fieldLink RX5 20 "TreeHashesModel" "count" "[I", Cond.fieldLink RX5 117 "TreeHashesModel" "high" "I", Cond.methodLink RX5 160 yX5_pileOf, Cond.instanceMethod yX5_pileOf, Cond.selects RX5 yX5_pileOf yX5_pileOf, Cond.initialized RX5, Cond.code yX5_pileOf cX5_pileOf 5 none, Cond.fieldLink RX5 32 "TreeHashesModel" "made" "[I", Cond.fieldLink RX5 29 "TreeHashesModel" "chains" "[I", Cond.fieldLink RX5 47 "TreeHashesModel" "chain" "[I", Cond.methodLink RX5 139 yX5_useKey, Cond.instanceMethod yX5_useKey, Cond.selects RX5 yX5_useKey yX5_useKey, Cond.code yX5_useKey cX5_useKey 3 none, Cond.fieldLink RX5 44 "TreeHashesModel" "key" "[I", Cond.fieldLink RX5 41 "TreeHashesModel" "start" "[I", Cond.fieldLink RX5 26 "TreeHashesModel" "keys" "[I", Cond.fieldLink RX5 23 "TreeHashesModel" "mode" "[I", Cond.fieldLink RX5 114 "TreeHashesModel" "base" "I", Cond.methodLink RX5 142 yX5_closedOf, Cond.instanceMethod yX5_closedOf, Cond.selects RX5 yX5_closedOf yX5_closedOf]
def wsX5_rootOf_r2 : List Cond := [Cond.code yX5_closedOf cX5_closedOf 2 (some .int), Cond.methodLink RX5 132 yX5_chunk, Cond.instanceMethod yX5_chunk, Cond.selects RX5 yX5_chunk yX5_chunk, Cond.code yX5_chunk cX5_chunk 9 none, Cond.fieldLink RX5 100 "TreeHashesModel" "number" "J", Cond.fieldLink RX5 92 "TreeHashesModel" "blockLength" "I", Cond.fieldLink RX5 50 "TreeHashesModel" "block" "[I", Cond.fieldLink RX5 104 "TreeHashesModel" "flags" "I", Cond.methodLink RX5 111 yX5_mixIn, Cond.instanceMethod yX5_mixIn, Cond.selects RX5 yX5_mixIn yX5_mixIn, Cond.code yX5_mixIn cX5_mixIn 2 none, Cond.fieldLink RX5 53 "TreeHashesModel" "v" "[I", Cond.methodLink RX5 107 yX5_mix, Cond.instanceMethod yX5_mix, Cond.selects RX5 yX5_mix yX5_mix, Cond.code yX5_mix cX5_mix 6 none, Cond.fieldLink RX5 56 "TreeHashesModel" "w" "[I", Cond.fieldLink RX5 59 "TreeHashesModel" "old" "[I", Cond.fieldLink RX5 62 "TreeHashesModel" "order" "[I", Cond.methodLink RX5 96 yX5_turn, Cond.instanceMethod yX5_turn, Cond.selects RX5 yX5_turn yX5_turn]
def wsX5_rootOf_r3 : List Cond := [Cond.code yX5_turn cX5_turn 6 none, Cond.methodLink RX5 88 yX5_turned, Cond.static yX5_turned, Cond.code yX5_turned cX5_turned 2 (some .int), Cond.methodLink RX5 126 yX5_beginPile, Cond.instanceMethod yX5_beginPile, Cond.selects RX5 yX5_beginPile yX5_beginPile, Cond.code yX5_beginPile cX5_beginPile 1 none, Cond.fieldLink RX5 120 "TreeHashesModel" "closed" "I", Cond.methodLink RX5 136 yX5_close, Cond.instanceMethod yX5_close, Cond.selects RX5 yX5_close yX5_close, Cond.code yX5_close cX5_close 2 none, Cond.fieldLink RX5 65 "TreeHashesModel" "pile" "[I", Cond.methodLink RX5 123 yX5_parent, Cond.instanceMethod yX5_parent, Cond.selects RX5 yX5_parent yX5_parent, Cond.code yX5_parent cX5_parent 2 none]
def wsX5_rootOf : List Cond := .code yX5_rootOf cX5_rootOf 3 none :: ((wsX5_rootOf_r1 ++ (wsX5_rootOf_r2 ++ wsX5_rootOf_r3)) ++ wsX50)
def wsX5_output_r1 : List Cond := [Cond.constantLong RX5 163 (4611686018427387904), Cond.constantLong RX5 172 (-1), Cond.constantLong RX5 174 (64), Cond.fieldLink RX5 104 "TreeHashesModel" "flags" "I", Cond.fieldLink RX5 53 "TreeHashesModel" "v" "[I", Cond.fieldLink RX5 7 "TreeHashesModel" "registers" "[I", Cond.constantLong RX5 176 (4), Cond.fieldLink RX5 13 "TreeHashesModel" "sizes" "[I", Cond.methodLink RX5 153 yX5_isHasher, Cond.static yX5_isHasher, Cond.initialized RX5, Cond.code yX5_isHasher cX5_isHasher 1 (some .boolean), Cond.methodLink RX5 147 yX5_isRegister, Cond.static yX5_isRegister, Cond.code yX5_isRegister cX5_isRegister 1 (some .boolean), Cond.methodLink RX5 165 yX5_in, Cond.static yX5_in, Cond.code yX5_in cX5_in 6 (some .boolean), Cond.methodLink RX5 169 yX5_rootOf, Cond.instanceMethod yX5_rootOf, Cond.selects RX5 yX5_rootOf yX5_rootOf, Cond.code yX5_rootOf cX5_rootOf 3 none, Cond.fieldLink RX5 17 "TreeHashesModel" "taken" "[I", Cond.constant RX5 146 (40000)]
def wsX5_output_r2 : List Cond := [Cond.fieldLink RX5 20 "TreeHashesModel" "count" "[I", Cond.fieldLink RX5 117 "TreeHashesModel" "high" "I", Cond.methodLink RX5 160 yX5_pileOf, Cond.instanceMethod yX5_pileOf, Cond.selects RX5 yX5_pileOf yX5_pileOf, Cond.code yX5_pileOf cX5_pileOf 5 none, Cond.fieldLink RX5 32 "TreeHashesModel" "made" "[I", Cond.fieldLink RX5 29 "TreeHashesModel" "chains" "[I", Cond.fieldLink RX5 47 "TreeHashesModel" "chain" "[I", Cond.methodLink RX5 139 yX5_useKey, Cond.instanceMethod yX5_useKey, Cond.selects RX5 yX5_useKey yX5_useKey, Cond.code yX5_useKey cX5_useKey 3 none, Cond.fieldLink RX5 44 "TreeHashesModel" "key" "[I", Cond.fieldLink RX5 41 "TreeHashesModel" "start" "[I", Cond.fieldLink RX5 26 "TreeHashesModel" "keys" "[I", Cond.fieldLink RX5 23 "TreeHashesModel" "mode" "[I", Cond.fieldLink RX5 114 "TreeHashesModel" "base" "I", Cond.methodLink RX5 142 yX5_closedOf, Cond.instanceMethod yX5_closedOf, Cond.selects RX5 yX5_closedOf yX5_closedOf, Cond.code yX5_closedOf cX5_closedOf 2 (some .int), Cond.methodLink RX5 132 yX5_chunk, Cond.instanceMethod yX5_chunk]
def wsX5_output_r3 : List Cond := [Cond.selects RX5 yX5_chunk yX5_chunk, Cond.code yX5_chunk cX5_chunk 9 none, Cond.fieldLink RX5 100 "TreeHashesModel" "number" "J", Cond.fieldLink RX5 92 "TreeHashesModel" "blockLength" "I", Cond.fieldLink RX5 50 "TreeHashesModel" "block" "[I", Cond.methodLink RX5 111 yX5_mixIn, Cond.instanceMethod yX5_mixIn, Cond.selects RX5 yX5_mixIn yX5_mixIn, Cond.code yX5_mixIn cX5_mixIn 2 none, Cond.methodLink RX5 107 yX5_mix, Cond.instanceMethod yX5_mix, Cond.selects RX5 yX5_mix yX5_mix, Cond.code yX5_mix cX5_mix 6 none, Cond.fieldLink RX5 56 "TreeHashesModel" "w" "[I", Cond.fieldLink RX5 59 "TreeHashesModel" "old" "[I", Cond.fieldLink RX5 62 "TreeHashesModel" "order" "[I", Cond.methodLink RX5 96 yX5_turn, Cond.instanceMethod yX5_turn, Cond.selects RX5 yX5_turn yX5_turn, Cond.code yX5_turn cX5_turn 6 none, Cond.methodLink RX5 88 yX5_turned, Cond.static yX5_turned, Cond.code yX5_turned cX5_turned 2 (some .int), Cond.methodLink RX5 126 yX5_beginPile]
def wsX5_output_r4 : List Cond := [Cond.instanceMethod yX5_beginPile, Cond.selects RX5 yX5_beginPile yX5_beginPile, Cond.code yX5_beginPile cX5_beginPile 1 none, Cond.fieldLink RX5 120 "TreeHashesModel" "closed" "I", Cond.methodLink RX5 136 yX5_close, Cond.instanceMethod yX5_close, Cond.selects RX5 yX5_close yX5_close, Cond.code yX5_close cX5_close 2 none, Cond.fieldLink RX5 65 "TreeHashesModel" "pile" "[I", Cond.methodLink RX5 123 yX5_parent, Cond.instanceMethod yX5_parent, Cond.selects RX5 yX5_parent yX5_parent, Cond.code yX5_parent cX5_parent 2 none]
def wsX5_output : List Cond := .code yX5_output cX5_output 12 (some .int) :: ((wsX5_output_r1 ++ (wsX5_output_r2 ++ (wsX5_output_r3 ++ wsX5_output_r4))) ++ wsX50)
def wsX5_copy : List Cond := .code yX5_copy cX5_copy 4 (some .int) :: ([.fieldLink RX5 20 "TreeHashesModel" "count" "[I", .fieldLink RX5 17 "TreeHashesModel" "taken" "[I", .constant RX5 146 (40000), .fieldLink RX5 26 "TreeHashesModel" "keys" "[I", .fieldLink RX5 29 "TreeHashesModel" "chains" "[I", .fieldLink RX5 23 "TreeHashesModel" "mode" "[I", .fieldLink RX5 32 "TreeHashesModel" "made" "[I", .methodLink RX5 153 yX5_isHasher, .static yX5_isHasher, .initialized RX5, .code yX5_isHasher cX5_isHasher 1 (some .boolean)] ++ wsX50)
def wsX5_told : List Cond := .code yX5_told cX5_told 6 (some .int) :: ([.fieldLink RX5 23 "TreeHashesModel" "mode" "[I", .fieldLink RX5 20 "TreeHashesModel" "count" "[I", .methodLink RX5 153 yX5_isHasher, .static yX5_isHasher, .initialized RX5, .code yX5_isHasher cX5_isHasher 1 (some .boolean), .methodLink RX5 142 yX5_closedOf, .instanceMethod yX5_closedOf, .selects RX5 yX5_closedOf yX5_closedOf, .code yX5_closedOf cX5_closedOf 2 (some .int)] ++ wsX50)
def wsX5_chain_r1 : List Cond := [Cond.fieldLink RX5 117 "TreeHashesModel" "high" "I", Cond.fieldLink RX5 65 "TreeHashesModel" "pile" "[I", Cond.methodLink RX5 153 yX5_isHasher, Cond.static yX5_isHasher, Cond.initialized RX5, Cond.code yX5_isHasher cX5_isHasher 1 (some .boolean), Cond.methodLink RX5 160 yX5_pileOf, Cond.instanceMethod yX5_pileOf, Cond.selects RX5 yX5_pileOf yX5_pileOf, Cond.code yX5_pileOf cX5_pileOf 5 none, Cond.fieldLink RX5 32 "TreeHashesModel" "made" "[I", Cond.fieldLink RX5 17 "TreeHashesModel" "taken" "[I", Cond.constant RX5 146 (40000), Cond.fieldLink RX5 29 "TreeHashesModel" "chains" "[I", Cond.fieldLink RX5 47 "TreeHashesModel" "chain" "[I", Cond.methodLink RX5 139 yX5_useKey, Cond.instanceMethod yX5_useKey, Cond.selects RX5 yX5_useKey yX5_useKey, Cond.code yX5_useKey cX5_useKey 3 none, Cond.fieldLink RX5 44 "TreeHashesModel" "key" "[I", Cond.fieldLink RX5 41 "TreeHashesModel" "start" "[I", Cond.fieldLink RX5 26 "TreeHashesModel" "keys" "[I", Cond.fieldLink RX5 23 "TreeHashesModel" "mode" "[I", Cond.fieldLink RX5 114 "TreeHashesModel" "base" "I"]
def wsX5_chain_r2 : List Cond := [Cond.methodLink RX5 142 yX5_closedOf, Cond.instanceMethod yX5_closedOf, Cond.selects RX5 yX5_closedOf yX5_closedOf, Cond.code yX5_closedOf cX5_closedOf 2 (some .int), Cond.fieldLink RX5 20 "TreeHashesModel" "count" "[I", Cond.methodLink RX5 132 yX5_chunk, Cond.instanceMethod yX5_chunk, Cond.selects RX5 yX5_chunk yX5_chunk, Cond.code yX5_chunk cX5_chunk 9 none, Cond.fieldLink RX5 100 "TreeHashesModel" "number" "J", Cond.fieldLink RX5 92 "TreeHashesModel" "blockLength" "I", Cond.fieldLink RX5 50 "TreeHashesModel" "block" "[I", Cond.fieldLink RX5 104 "TreeHashesModel" "flags" "I", Cond.methodLink RX5 111 yX5_mixIn, Cond.instanceMethod yX5_mixIn, Cond.selects RX5 yX5_mixIn yX5_mixIn, Cond.code yX5_mixIn cX5_mixIn 2 none, Cond.fieldLink RX5 53 "TreeHashesModel" "v" "[I", Cond.methodLink RX5 107 yX5_mix, Cond.instanceMethod yX5_mix, Cond.selects RX5 yX5_mix yX5_mix, Cond.code yX5_mix cX5_mix 6 none, Cond.fieldLink RX5 56 "TreeHashesModel" "w" "[I", Cond.fieldLink RX5 59 "TreeHashesModel" "old" "[I"]
def wsX5_chain_r3 : List Cond := [Cond.fieldLink RX5 62 "TreeHashesModel" "order" "[I", Cond.methodLink RX5 96 yX5_turn, Cond.instanceMethod yX5_turn, Cond.selects RX5 yX5_turn yX5_turn, Cond.code yX5_turn cX5_turn 6 none, Cond.methodLink RX5 88 yX5_turned, Cond.static yX5_turned, Cond.code yX5_turned cX5_turned 2 (some .int), Cond.methodLink RX5 126 yX5_beginPile, Cond.instanceMethod yX5_beginPile, Cond.selects RX5 yX5_beginPile yX5_beginPile, Cond.code yX5_beginPile cX5_beginPile 1 none, Cond.fieldLink RX5 120 "TreeHashesModel" "closed" "I", Cond.methodLink RX5 136 yX5_close, Cond.instanceMethod yX5_close, Cond.selects RX5 yX5_close yX5_close, Cond.code yX5_close cX5_close 2 none, Cond.methodLink RX5 123 yX5_parent, Cond.instanceMethod yX5_parent, Cond.selects RX5 yX5_parent yX5_parent, Cond.code yX5_parent cX5_parent 2 none]
def wsX5_chain : List Cond := .code yX5_chain cX5_chain 4 (some .int) :: ((wsX5_chain_r1 ++ (wsX5_chain_r2 ++ wsX5_chain_r3)) ++ wsX50)
def wsX5_grow : List Cond := .code yX5_grow cX5_grow 5 (some .int) :: ([.fieldLink RX5 178 "TreeHashesModel" "length" "I", .fieldLink RX5 35 "TreeHashesModel" "file" "[I"] ++ wsX50)
def wsX5_spoil : List Cond := .code yX5_spoil cX5_spoil 3 (some .int) :: ([.fieldLink RX5 178 "TreeHashesModel" "length" "I", .fieldLink RX5 35 "TreeHashesModel" "file" "[I"] ++ wsX50)
def wsX5_shorten : List Cond := .code yX5_shorten cX5_shorten 3 (some .int) :: ([.fieldLink RX5 178 "TreeHashesModel" "length" "I"] ++ wsX50)
def wsX5_root_r1 : List Cond := [Cond.fieldLink RX5 35 "TreeHashesModel" "file" "[I", Cond.fieldLink RX5 178 "TreeHashesModel" "length" "I", Cond.fieldLink RX5 104 "TreeHashesModel" "flags" "I", Cond.fieldLink RX5 7 "TreeHashesModel" "registers" "[I", Cond.fieldLink RX5 53 "TreeHashesModel" "v" "[I", Cond.fieldLink RX5 13 "TreeHashesModel" "sizes" "[I", Cond.methodLink RX5 147 yX5_isRegister, Cond.static yX5_isRegister, Cond.initialized RX5, Cond.code yX5_isRegister cX5_isRegister 1 (some .boolean), Cond.methodLink RX5 139 yX5_useKey, Cond.instanceMethod yX5_useKey, Cond.selects RX5 yX5_useKey yX5_useKey, Cond.code yX5_useKey cX5_useKey 3 none, Cond.fieldLink RX5 44 "TreeHashesModel" "key" "[I", Cond.fieldLink RX5 41 "TreeHashesModel" "start" "[I", Cond.fieldLink RX5 26 "TreeHashesModel" "keys" "[I", Cond.fieldLink RX5 23 "TreeHashesModel" "mode" "[I", Cond.fieldLink RX5 114 "TreeHashesModel" "base" "I", Cond.methodLink RX5 181 yX5_chunksOf, Cond.static yX5_chunksOf, Cond.code yX5_chunksOf cX5_chunksOf 1 (some .int), Cond.methodLink RX5 184 yX5_tree, Cond.instanceMethod yX5_tree]
def wsX5_root_r2 : List Cond := [Cond.selects RX5 yX5_tree yX5_tree, Cond.code yX5_tree cX5_tree 7 none, Cond.fieldLink RX5 117 "TreeHashesModel" "high" "I", Cond.methodLink RX5 126 yX5_beginPile, Cond.instanceMethod yX5_beginPile, Cond.selects RX5 yX5_beginPile yX5_beginPile, Cond.code yX5_beginPile cX5_beginPile 1 none, Cond.fieldLink RX5 120 "TreeHashesModel" "closed" "I", Cond.methodLink RX5 129 yX5_chunkSize, Cond.static yX5_chunkSize, Cond.code yX5_chunkSize cX5_chunkSize 2 (some .int), Cond.methodLink RX5 132 yX5_chunk, Cond.instanceMethod yX5_chunk, Cond.selects RX5 yX5_chunk yX5_chunk, Cond.code yX5_chunk cX5_chunk 9 none, Cond.fieldLink RX5 47 "TreeHashesModel" "chain" "[I", Cond.fieldLink RX5 100 "TreeHashesModel" "number" "J", Cond.fieldLink RX5 92 "TreeHashesModel" "blockLength" "I", Cond.fieldLink RX5 50 "TreeHashesModel" "block" "[I", Cond.methodLink RX5 111 yX5_mixIn, Cond.instanceMethod yX5_mixIn, Cond.selects RX5 yX5_mixIn yX5_mixIn, Cond.code yX5_mixIn cX5_mixIn 2 none, Cond.methodLink RX5 107 yX5_mix]
def wsX5_root_r3 : List Cond := [Cond.instanceMethod yX5_mix, Cond.selects RX5 yX5_mix yX5_mix, Cond.code yX5_mix cX5_mix 6 none, Cond.fieldLink RX5 56 "TreeHashesModel" "w" "[I", Cond.fieldLink RX5 59 "TreeHashesModel" "old" "[I", Cond.fieldLink RX5 62 "TreeHashesModel" "order" "[I", Cond.methodLink RX5 96 yX5_turn, Cond.instanceMethod yX5_turn, Cond.selects RX5 yX5_turn yX5_turn, Cond.code yX5_turn cX5_turn 6 none, Cond.methodLink RX5 88 yX5_turned, Cond.static yX5_turned, Cond.code yX5_turned cX5_turned 2 (some .int), Cond.methodLink RX5 136 yX5_close, Cond.instanceMethod yX5_close, Cond.selects RX5 yX5_close yX5_close, Cond.code yX5_close cX5_close 2 none, Cond.fieldLink RX5 65 "TreeHashesModel" "pile" "[I", Cond.methodLink RX5 123 yX5_parent, Cond.instanceMethod yX5_parent, Cond.selects RX5 yX5_parent yX5_parent, Cond.code yX5_parent cX5_parent 2 none]
def wsX5_root : List Cond := .code yX5_root cX5_root 3 (some .int) :: ((wsX5_root_r1 ++ (wsX5_root_r2 ++ wsX5_root_r3)) ++ wsX50)
def wsX5_leftOf : List Cond := .code yX5_leftOf cX5_leftOf 2 (some .int) :: ([])
def wsX5_prove_r1 : List Cond := [Cond.fieldLink RX5 178 "TreeHashesModel" "length" "I", Cond.fieldLink RX5 188 "TreeHashesModel" "proofSize" "I", Cond.fieldLink RX5 38 "TreeHashesModel" "proof" "[I", Cond.fieldLink RX5 35 "TreeHashesModel" "file" "[I", Cond.fieldLink RX5 47 "TreeHashesModel" "chain" "[I", Cond.methodLink RX5 181 yX5_chunksOf, Cond.static yX5_chunksOf, Cond.initialized RX5, Cond.code yX5_chunksOf cX5_chunksOf 1 (some .int), Cond.methodLink RX5 139 yX5_useKey, Cond.instanceMethod yX5_useKey, Cond.selects RX5 yX5_useKey yX5_useKey, Cond.code yX5_useKey cX5_useKey 3 none, Cond.fieldLink RX5 44 "TreeHashesModel" "key" "[I", Cond.fieldLink RX5 41 "TreeHashesModel" "start" "[I", Cond.fieldLink RX5 26 "TreeHashesModel" "keys" "[I", Cond.fieldLink RX5 23 "TreeHashesModel" "mode" "[I", Cond.fieldLink RX5 114 "TreeHashesModel" "base" "I", Cond.methodLink RX5 129 yX5_chunkSize, Cond.static yX5_chunkSize, Cond.code yX5_chunkSize cX5_chunkSize 2 (some .int), Cond.methodLink RX5 191 yX5_leftOf, Cond.static yX5_leftOf, Cond.code yX5_leftOf cX5_leftOf 2 (some .int)]
def wsX5_prove_r2 : List Cond := [Cond.methodLink RX5 184 yX5_tree, Cond.instanceMethod yX5_tree, Cond.selects RX5 yX5_tree yX5_tree, Cond.code yX5_tree cX5_tree 7 none, Cond.fieldLink RX5 117 "TreeHashesModel" "high" "I", Cond.methodLink RX5 126 yX5_beginPile, Cond.instanceMethod yX5_beginPile, Cond.selects RX5 yX5_beginPile yX5_beginPile, Cond.code yX5_beginPile cX5_beginPile 1 none, Cond.fieldLink RX5 120 "TreeHashesModel" "closed" "I", Cond.methodLink RX5 132 yX5_chunk, Cond.instanceMethod yX5_chunk, Cond.selects RX5 yX5_chunk yX5_chunk, Cond.code yX5_chunk cX5_chunk 9 none, Cond.fieldLink RX5 100 "TreeHashesModel" "number" "J", Cond.fieldLink RX5 92 "TreeHashesModel" "blockLength" "I", Cond.fieldLink RX5 50 "TreeHashesModel" "block" "[I", Cond.fieldLink RX5 104 "TreeHashesModel" "flags" "I", Cond.methodLink RX5 111 yX5_mixIn, Cond.instanceMethod yX5_mixIn, Cond.selects RX5 yX5_mixIn yX5_mixIn, Cond.code yX5_mixIn cX5_mixIn 2 none, Cond.fieldLink RX5 53 "TreeHashesModel" "v" "[I", Cond.methodLink RX5 107 yX5_mix]
def wsX5_prove_r3 : List Cond := [Cond.instanceMethod yX5_mix, Cond.selects RX5 yX5_mix yX5_mix, Cond.code yX5_mix cX5_mix 6 none, Cond.fieldLink RX5 56 "TreeHashesModel" "w" "[I", Cond.fieldLink RX5 59 "TreeHashesModel" "old" "[I", Cond.fieldLink RX5 62 "TreeHashesModel" "order" "[I", Cond.methodLink RX5 96 yX5_turn, Cond.instanceMethod yX5_turn, Cond.selects RX5 yX5_turn yX5_turn, Cond.code yX5_turn cX5_turn 6 none, Cond.methodLink RX5 88 yX5_turned, Cond.static yX5_turned, Cond.code yX5_turned cX5_turned 2 (some .int), Cond.methodLink RX5 136 yX5_close, Cond.instanceMethod yX5_close, Cond.selects RX5 yX5_close yX5_close, Cond.code yX5_close cX5_close 2 none, Cond.fieldLink RX5 65 "TreeHashesModel" "pile" "[I", Cond.methodLink RX5 123 yX5_parent, Cond.instanceMethod yX5_parent, Cond.selects RX5 yX5_parent yX5_parent, Cond.code yX5_parent cX5_parent 2 none]
def wsX5_prove : List Cond := .code yX5_prove cX5_prove 9 (some .int) :: ((wsX5_prove_r1 ++ (wsX5_prove_r2 ++ wsX5_prove_r3)) ++ wsX50)
def wsX5_proof : List Cond := .code yX5_proof cX5_proof 2 (some .int) :: ([.fieldLink RX5 188 "TreeHashesModel" "proofSize" "I", .fieldLink RX5 38 "TreeHashesModel" "proof" "[I"] ++ wsX50)
def wsX5_forge : List Cond := .code yX5_forge cX5_forge 3 (some .int) :: ([.fieldLink RX5 188 "TreeHashesModel" "proofSize" "I", .fieldLink RX5 38 "TreeHashesModel" "proof" "[I"] ++ wsX50)
def wsX5_cut : List Cond := .code yX5_cut cX5_cut 3 (some .int) :: ([.fieldLink RX5 188 "TreeHashesModel" "proofSize" "I"] ++ wsX50)
def wsX5_check_r1 : List Cond := [Cond.constant RX5 194 (1000000), Cond.fieldLink RX5 13 "TreeHashesModel" "sizes" "[I", Cond.fieldLink RX5 68 "TreeHashesModel" "isLeft" "[Z", Cond.fieldLink RX5 188 "TreeHashesModel" "proofSize" "I", Cond.fieldLink RX5 38 "TreeHashesModel" "proof" "[I", Cond.fieldLink RX5 50 "TreeHashesModel" "block" "[I", Cond.fieldLink RX5 47 "TreeHashesModel" "chain" "[I", Cond.fieldLink RX5 44 "TreeHashesModel" "key" "[I", Cond.fieldLink RX5 100 "TreeHashesModel" "number" "J", Cond.fieldLink RX5 92 "TreeHashesModel" "blockLength" "I", Cond.fieldLink RX5 114 "TreeHashesModel" "base" "I", Cond.fieldLink RX5 104 "TreeHashesModel" "flags" "I", Cond.fieldLink RX5 7 "TreeHashesModel" "registers" "[I", Cond.fieldLink RX5 53 "TreeHashesModel" "v" "[I", Cond.methodLink RX5 147 yX5_isRegister, Cond.static yX5_isRegister, Cond.initialized RX5, Cond.code yX5_isRegister cX5_isRegister 1 (some .boolean), Cond.methodLink RX5 181 yX5_chunksOf, Cond.static yX5_chunksOf, Cond.code yX5_chunksOf cX5_chunksOf 1 (some .int), Cond.methodLink RX5 191 yX5_leftOf, Cond.static yX5_leftOf, Cond.code yX5_leftOf cX5_leftOf 2 (some .int)]
def wsX5_check_r2 : List Cond := [Cond.methodLink RX5 129 yX5_chunkSize, Cond.static yX5_chunkSize, Cond.code yX5_chunkSize cX5_chunkSize 2 (some .int), Cond.methodLink RX5 139 yX5_useKey, Cond.instanceMethod yX5_useKey, Cond.selects RX5 yX5_useKey yX5_useKey, Cond.code yX5_useKey cX5_useKey 3 none, Cond.fieldLink RX5 41 "TreeHashesModel" "start" "[I", Cond.fieldLink RX5 26 "TreeHashesModel" "keys" "[I", Cond.fieldLink RX5 23 "TreeHashesModel" "mode" "[I", Cond.methodLink RX5 132 yX5_chunk, Cond.instanceMethod yX5_chunk, Cond.selects RX5 yX5_chunk yX5_chunk, Cond.code yX5_chunk cX5_chunk 9 none, Cond.methodLink RX5 111 yX5_mixIn, Cond.instanceMethod yX5_mixIn, Cond.selects RX5 yX5_mixIn yX5_mixIn, Cond.code yX5_mixIn cX5_mixIn 2 none, Cond.methodLink RX5 107 yX5_mix, Cond.instanceMethod yX5_mix, Cond.selects RX5 yX5_mix yX5_mix, Cond.code yX5_mix cX5_mix 6 none, Cond.fieldLink RX5 56 "TreeHashesModel" "w" "[I", Cond.fieldLink RX5 59 "TreeHashesModel" "old" "[I"]
def wsX5_check_r3 : List Cond := [Cond.fieldLink RX5 62 "TreeHashesModel" "order" "[I", Cond.methodLink RX5 96 yX5_turn, Cond.instanceMethod yX5_turn, Cond.selects RX5 yX5_turn yX5_turn, Cond.code yX5_turn cX5_turn 6 none, Cond.methodLink RX5 88 yX5_turned, Cond.static yX5_turned, Cond.code yX5_turned cX5_turned 2 (some .int), Cond.methodLink RX5 156 yX5_wordAt, Cond.static yX5_wordAt, Cond.code yX5_wordAt cX5_wordAt 2 (some .int)]
def wsX5_check : List Cond := .code yX5_check cX5_check 12 (some .int) :: ((wsX5_check_r1 ++ (wsX5_check_r2 ++ wsX5_check_r3)) ++ wsX50)
def wsJ9_max_7cf53 : List Cond := .code yJ9_max_7cf53 cJ9_max_7cf53 2 (some .int) :: ([])
def wsJ9_min_7cf53 : List Cond := .code yJ9_min_7cf53 cJ9_min_7cf53 2 (some .int) :: ([])
def wsL_law_r1 : List Cond := [Cond.classLink RL 7 RX4, Cond.instantiable RX4 7, Cond.initialized RX4, Cond.classLink RL 10 RX5, Cond.instantiable RX5 28, Cond.initialized RX5, Cond.constantLong RL 13 (4294967295), Cond.methodLink RL 9 yX4_init, Cond.instanceMethod yX4_init, Cond.code yX4_init cX4_init 2 none, Cond.methodLink RX4 3 objectInit, Cond.instanceMethod objectInit, Cond.code objectInit ⟨#[0xb1]⟩ 1 none, Cond.classLink RX4 9 RX0, Cond.fieldLink RX4 11 "TreeHashes" "registers" "[LTreeHashes$Bytes;", Cond.classLink RX4 15 RX1, Cond.fieldLink RX4 17 "TreeHashes" "hashers" "[LTreeHashes$Hasher;", Cond.instantiable RX0 2, Cond.initialized RX0, Cond.fieldLink RX4 24 "TreeHashes" "file" "LTreeHashes$Bytes;", Cond.fieldLink RX4 28 "TreeHashes" "proven" "LTreeHashes$Bytes;", Cond.instantiable RX1 13, Cond.initialized RX1, Cond.fieldLink RX4 32 "TreeHashes" "worker" "LTreeHashes$Hasher;"]
def wsL_law_r2 : List Cond := [Cond.classLink RX4 36 RX3, Cond.instantiable RX3 3, Cond.initialized RX3, Cond.fieldLink RX4 39 "TreeHashes" "way" "LTreeHashes$Way;", Cond.arrayClass .int, Cond.fieldLink RX4 43 "TreeHashes" "words" "[I", Cond.methodLink RX4 21 yX0_init, Cond.instanceMethod yX0_init, Cond.code yX0_init cX0_init 2 none, Cond.methodLink RX0 3 objectInit, Cond.methodLink RX0 9 Lib.Math.max.name, Cond.static Lib.Math.max.name, Cond.initialized "java/lang/Math", Cond.code Lib.Math.max.name Lib.Math.max.code 2 (some .int), Cond.arrayClass .byte, Cond.fieldLink RX0 15 "TreeHashes$Bytes" "row" "[B", Cond.methodLink RX4 31 yX1_init, Cond.instanceMethod yX1_init, Cond.code yX1_init cX1_init 1 none, Cond.methodLink RX1 5 objectInit, Cond.classLink RX1 11 RX2, Cond.instantiable RX2 8, Cond.initialized RX2, Cond.fieldLink RX1 14 "TreeHashes$Hasher" "mix" "LTreeHashes$Mix;"]
def wsL_law_r3 : List Cond := [Cond.fieldLink RX1 18 "TreeHashes$Hasher" "key" "[I", Cond.fieldLink RX1 22 "TreeHashes$Hasher" "stack" "[I", Cond.fieldLink RX1 25 "TreeHashes$Hasher" "chunkChain" "[I", Cond.fieldLink RX1 28 "TreeHashes$Hasher" "block" "[I", Cond.fieldLink RX1 31 "TreeHashes$Mix" "START" "[I", Cond.instanceMethod yX2_init, Cond.code yX2_init cX2_init 1 none, Cond.methodLink RX2 3 objectInit, Cond.fieldLink RX2 9 "TreeHashes$Mix" "chain" "[I", Cond.fieldLink RX2 15 "TreeHashes$Mix" "block" "[I", Cond.fieldLink RX2 18 "TreeHashes$Mix" "v" "[I", Cond.fieldLink RX2 21 "TreeHashes$Mix" "w" "[I", Cond.fieldLink RX2 24 "TreeHashes$Mix" "nextW" "[I", Cond.methodLink RX1 34 yX1_restart, Cond.instanceMethod yX1_restart, Cond.selects RX1 yX1_restart yX1_restart, Cond.code yX1_restart cX1_restart 5 none, Cond.fieldLink RX1 42 "TreeHashes$Hasher" "mode" "I", Cond.fieldLink RX1 46 "TreeHashes$Hasher" "base" "I", Cond.fieldLink RX1 49 "TreeHashes$Hasher" "firstChunk" "I", Cond.fieldLink RX1 52 "TreeHashes$Hasher" "taken" "I", Cond.fieldLink RX1 55 "TreeHashes$Hasher" "closed" "I", Cond.fieldLink RX1 58 "TreeHashes$Hasher" "depth" "I", Cond.methodLink RX1 38 yX1_copyWords]
def wsL_law_r4 : List Cond := [Cond.static yX1_copyWords, Cond.code yX1_copyWords cX1_copyWords 3 none, Cond.methodLink RX1 61 yX1_startChunk, Cond.instanceMethod yX1_startChunk, Cond.selects RX1 yX1_startChunk yX1_startChunk, Cond.code yX1_startChunk cX1_startChunk 1 none, Cond.fieldLink RX1 64 "TreeHashes$Hasher" "blocks" "I", Cond.methodLink RX1 104 yX1_startBlock, Cond.instanceMethod yX1_startBlock, Cond.selects RX1 yX1_startBlock yX1_startBlock, Cond.code yX1_startBlock cX1_startBlock 2 none, Cond.fieldLink RX1 67 "TreeHashes$Hasher" "inBlock" "I", Cond.instanceMethod yX3_init, Cond.code yX3_init cX3_init 1 none, Cond.methodLink RX3 1 objectInit, Cond.fieldLink RX3 9 "TreeHashes$Way" "otherFirst" "[I", Cond.fieldLink RX3 13 "TreeHashes$Way" "otherChunks" "[I", Cond.methodLink RL 12 yX5_init, Cond.instanceMethod yX5_init, Cond.code yX5_init cX5_init 4 none, Cond.methodLink RX5 1 objectInit, Cond.fieldLink RX5 7 "TreeHashesModel" "registers" "[I", Cond.fieldLink RX5 13 "TreeHashesModel" "sizes" "[I", Cond.constant RX5 16 (160000)]
def wsL_law_r5 : List Cond := [Cond.fieldLink RX5 17 "TreeHashesModel" "taken" "[I", Cond.fieldLink RX5 20 "TreeHashesModel" "count" "[I", Cond.fieldLink RX5 23 "TreeHashesModel" "mode" "[I", Cond.fieldLink RX5 26 "TreeHashesModel" "keys" "[I", Cond.fieldLink RX5 29 "TreeHashesModel" "chains" "[I", Cond.fieldLink RX5 32 "TreeHashesModel" "made" "[I", Cond.fieldLink RX5 35 "TreeHashesModel" "file" "[I", Cond.fieldLink RX5 38 "TreeHashesModel" "proof" "[I", Cond.fieldLink RX5 41 "TreeHashesModel" "start" "[I", Cond.fieldLink RX5 44 "TreeHashesModel" "key" "[I", Cond.fieldLink RX5 47 "TreeHashesModel" "chain" "[I", Cond.fieldLink RX5 50 "TreeHashesModel" "block" "[I", Cond.fieldLink RX5 53 "TreeHashesModel" "v" "[I", Cond.fieldLink RX5 56 "TreeHashesModel" "w" "[I", Cond.fieldLink RX5 59 "TreeHashesModel" "old" "[I", Cond.fieldLink RX5 62 "TreeHashesModel" "order" "[I", Cond.fieldLink RX5 65 "TreeHashesModel" "pile" "[I", Cond.arrayClass .boolean, Cond.fieldLink RX5 68 "TreeHashesModel" "isLeft" "[Z", Cond.constant RX5 72 (1779033703), Cond.constant RX5 73 (-1150833019), Cond.constant RX5 74 (1013904242), Cond.constant RX5 75 (-1521486534), Cond.constant RX5 76 (1359893119)]
def wsL_law_r6 : List Cond := [Cond.constant RX5 77 (-1694144372), Cond.constant RX5 78 (528734635), Cond.constant RX5 79 (1541459225), Cond.constantLong RX5 80 (-8076822537876036766), Cond.constantLong RX5 82 (15), Cond.methodLink RX5 84 yX5_plain, Cond.instanceMethod yX5_plain, Cond.selects RX5 yX5_plain yX5_plain, Cond.code yX5_plain cX5_plain 3 none, Cond.methodLink RL 15 yX4_add, Cond.instanceMethod yX4_add, Cond.selects RX4 yX4_add yX4_add, Cond.code yX4_add cX4_add 6 (some .int), Cond.methodLink RX4 47 yX4_isRegister, Cond.static yX4_isRegister, Cond.code yX4_isRegister cX4_isRegister 1 (some .boolean), Cond.methodLink RX4 51 yX0_hasRoomFor, Cond.instanceMethod yX0_hasRoomFor, Cond.selects RX0 yX0_hasRoomFor yX0_hasRoomFor, Cond.code yX0_hasRoomFor cX0_hasRoomFor 2 (some .boolean), Cond.fieldLink RX0 21 "TreeHashes$Bytes" "count" "I", Cond.methodLink RX4 54 yX0_append, Cond.instanceMethod yX0_append, Cond.selects RX0 yX0_append yX0_append]
def wsL_law_r7 : List Cond := [Cond.code yX0_append cX0_append 2 none, Cond.methodLink RL 19 yX5_add, Cond.instanceMethod yX5_add, Cond.selects RX5 yX5_add yX5_add, Cond.code yX5_add cX5_add 6 (some .int), Cond.constantLong RX5 151 (255), Cond.methodLink RX5 147 yX5_isRegister, Cond.static yX5_isRegister, Cond.code yX5_isRegister cX5_isRegister 1 (some .boolean), Cond.methodLink RL 20 yX4_clear, Cond.instanceMethod yX4_clear, Cond.selects RX4 yX4_clear yX4_clear, Cond.code yX4_clear cX4_clear 2 (some .int), Cond.methodLink RX4 61 yX0_keepFirst, Cond.instanceMethod yX0_keepFirst, Cond.selects RX0 yX0_keepFirst yX0_keepFirst, Cond.code yX0_keepFirst cX0_keepFirst 3 (some .int), Cond.methodLink RL 24 yX5_clear, Cond.instanceMethod yX5_clear, Cond.selects RX5 yX5_clear yX5_clear, Cond.code yX5_clear cX5_clear 3 (some .int), Cond.methodLink RL 25 yX4_size, Cond.instanceMethod yX4_size, Cond.selects RX4 yX4_size yX4_size]
def wsL_law_r8 : List Cond := [Cond.code yX4_size cX4_size 2 (some .int), Cond.methodLink RL 28 yX5_size, Cond.instanceMethod yX5_size, Cond.selects RX5 yX5_size yX5_size, Cond.code yX5_size cX5_size 2 (some .int), Cond.methodLink RL 29 yX4_at, Cond.instanceMethod yX4_at, Cond.selects RX4 yX4_at yX4_at, Cond.code yX4_at cX4_at 3 (some .int), Cond.methodLink RX4 65 yX0_byteAt, Cond.instanceMethod yX0_byteAt, Cond.selects RX0 yX0_byteAt yX0_byteAt, Cond.code yX0_byteAt cX0_byteAt 2 (some .int), Cond.methodLink RL 33 yX5_at, Cond.instanceMethod yX5_at, Cond.selects RX5 yX5_at yX5_at, Cond.code yX5_at cX5_at 3 (some .int), Cond.methodLink RL 34 yX4_begin, Cond.instanceMethod yX4_begin, Cond.selects RX4 yX4_begin yX4_begin, Cond.code yX4_begin cX4_begin 4 (some .int), Cond.fieldLink RX4 71 "TreeHashes$Mix" "START" "[I", Cond.methodLink RX4 68 yX4_isHasher, Cond.static yX4_isHasher]
def wsL_law_r9 : List Cond := [Cond.code yX4_isHasher cX4_isHasher 1 (some .boolean), Cond.methodLink RX4 76 yX1_restart, Cond.methodLink RX4 80 yX0_readChain, Cond.instanceMethod yX0_readChain, Cond.selects RX0 yX0_readChain yX0_readChain, Cond.code yX0_readChain cX0_readChain 4 none, Cond.methodLink RX0 33 yX0_wordAt, Cond.instanceMethod yX0_wordAt, Cond.selects RX0 yX0_wordAt yX0_wordAt, Cond.code yX0_wordAt cX0_wordAt 2 (some .int), Cond.methodLink RX0 29 yX0_byteAt, Cond.methodLink RX4 84 yX4_deriveKey, Cond.instanceMethod yX4_deriveKey, Cond.selects RX4 yX4_deriveKey yX4_deriveKey, Cond.code yX4_deriveKey cX4_deriveKey 2 none, Cond.methodLink RX4 92 yX1_absorb, Cond.instanceMethod yX1_absorb, Cond.selects RX1 yX1_absorb yX1_absorb, Cond.code yX1_absorb cX1_absorb 5 none, Cond.methodLink RX1 70 yX0_byteAt, Cond.methodLink RX1 76 yX1_absorbByte, Cond.instanceMethod yX1_absorbByte, Cond.selects RX1 yX1_absorbByte yX1_absorbByte, Cond.code yX1_absorbByte cX1_absorbByte 2 none]
def wsL_law_r10 : List Cond := [Cond.methodLink RX1 80 yX1_closeChunk, Cond.instanceMethod yX1_closeChunk, Cond.selects RX1 yX1_closeChunk yX1_closeChunk, Cond.code yX1_closeChunk cX1_closeChunk 2 none, Cond.methodLink RX1 86 yX1_prepareBlock, Cond.instanceMethod yX1_prepareBlock, Cond.selects RX1 yX1_prepareBlock yX1_prepareBlock, Cond.code yX1_prepareBlock cX1_prepareBlock 3 none, Cond.methodLink RX1 96 yX2_prepare, Cond.instanceMethod yX2_prepare, Cond.selects RX2 yX2_prepare yX2_prepare, Cond.code yX2_prepare cX2_prepare 8 none, Cond.fieldLink RX2 27 "TreeHashes$Mix" "count" "J", Cond.fieldLink RX2 31 "TreeHashes$Mix" "length" "I", Cond.fieldLink RX2 35 "TreeHashes$Mix" "flags" "I", Cond.methodLink RX1 89 yX2_run, Cond.instanceMethod yX2_run, Cond.selects RX2 yX2_run yX2_run, Cond.code yX2_run cX2_run 2 none, Cond.methodLink RX2 66 yX2_fillIn, Cond.instanceMethod yX2_fillIn, Cond.selects RX2 yX2_fillIn yX2_fillIn, Cond.code yX2_fillIn cX2_fillIn 2 none, Cond.fieldLink RX2 76 "TreeHashes$Mix" "START" "[I"]
def wsL_law_r11 : List Cond := [Cond.methodLink RX2 69 yX2_turn, Cond.instanceMethod yX2_turn, Cond.selects RX2 yX2_turn yX2_turn, Cond.code yX2_turn cX2_turn 11 none, Cond.methodLink RX2 73 yX2_reorder, Cond.instanceMethod yX2_reorder, Cond.selects RX2 yX2_reorder yX2_reorder, Cond.code yX2_reorder cX2_reorder 2 none, Cond.fieldLink RX2 79 "TreeHashes$Mix" "ORDER" "[I", Cond.methodLink RX1 92 yX2_joinBehind, Cond.instanceMethod yX2_joinBehind, Cond.selects RX2 yX2_joinBehind yX2_joinBehind, Cond.code yX2_joinBehind cX2_joinBehind 6 none, Cond.methodLink RX2 38 yX2_prepare, Cond.methodLink RX1 100 yX2_writeChain, Cond.instanceMethod yX2_writeChain, Cond.selects RX2 yX2_writeChain yX2_writeChain, Cond.code yX2_writeChain cX2_writeChain 4 none, Cond.methodLink RX1 83 yX1_closeBlock, Cond.instanceMethod yX1_closeBlock, Cond.selects RX1 yX1_closeBlock yX1_closeBlock, Cond.code yX1_closeBlock cX1_closeBlock 1 none, Cond.methodLink RX4 101 yX1_prepareLast, Cond.instanceMethod yX1_prepareLast]
def wsL_law_r12 : List Cond := [Cond.selects RX1 yX1_prepareLast yX1_prepareLast, Cond.code yX1_prepareLast cX1_prepareLast 2 none, Cond.methodLink RX4 190 yX2_makeRoot, Cond.instanceMethod yX2_makeRoot, Cond.selects RX2 yX2_makeRoot yX2_makeRoot, Cond.code yX2_makeRoot cX2_makeRoot 1 none, Cond.methodLink RX4 171 yX2_run, Cond.methodLink RX4 174 yX2_writeChain, Cond.methodLink RL 38 yX5_begin, Cond.instanceMethod yX5_begin, Cond.selects RX5 yX5_begin yX5_begin, Cond.code yX5_begin cX5_begin 5 (some .int), Cond.fieldLink RX5 114 "TreeHashesModel" "base" "I", Cond.fieldLink RX5 104 "TreeHashesModel" "flags" "I", Cond.methodLink RX5 153 yX5_isHasher, Cond.static yX5_isHasher, Cond.code yX5_isHasher cX5_isHasher 1 (some .boolean), Cond.methodLink RX5 156 yX5_wordAt, Cond.static yX5_wordAt, Cond.code yX5_wordAt cX5_wordAt 2 (some .int), Cond.methodLink RX5 139 yX5_useKey, Cond.instanceMethod yX5_useKey, Cond.selects RX5 yX5_useKey yX5_useKey, Cond.code yX5_useKey cX5_useKey 3 none]
def wsL_law_r13 : List Cond := [Cond.methodLink RX5 132 yX5_chunk, Cond.instanceMethod yX5_chunk, Cond.selects RX5 yX5_chunk yX5_chunk, Cond.code yX5_chunk cX5_chunk 9 none, Cond.fieldLink RX5 100 "TreeHashesModel" "number" "J", Cond.fieldLink RX5 92 "TreeHashesModel" "blockLength" "I", Cond.methodLink RX5 111 yX5_mixIn, Cond.instanceMethod yX5_mixIn, Cond.selects RX5 yX5_mixIn yX5_mixIn, Cond.code yX5_mixIn cX5_mixIn 2 none, Cond.methodLink RX5 107 yX5_mix, Cond.instanceMethod yX5_mix, Cond.selects RX5 yX5_mix yX5_mix, Cond.code yX5_mix cX5_mix 6 none, Cond.methodLink RX5 96 yX5_turn, Cond.instanceMethod yX5_turn, Cond.selects RX5 yX5_turn yX5_turn, Cond.code yX5_turn cX5_turn 6 none, Cond.methodLink RX5 88 yX5_turned, Cond.static yX5_turned, Cond.code yX5_turned cX5_turned 2 (some .int), Cond.methodLink RL 39 yX4_take, Cond.instanceMethod yX4_take, Cond.selects RX4 yX4_take yX4_take]
def wsL_law_r14 : List Cond := [Cond.code yX4_take cX4_take 3 (some .int), Cond.constant RX4 88 (40000), Cond.methodLink RL 42 yX5_take, Cond.instanceMethod yX5_take, Cond.selects RX5 yX5_take yX5_take, Cond.code yX5_take cX5_take 4 (some .int), Cond.constant RX5 146 (40000), Cond.methodLink RL 43 yX4_fill, Cond.instanceMethod yX4_fill, Cond.selects RX4 yX4_fill yX4_fill, Cond.code yX4_fill cX4_fill 6 (some .int), Cond.methodLink RX4 96 yX1_absorbByte, Cond.methodLink RL 47 yX5_fill, Cond.instanceMethod yX5_fill, Cond.selects RX5 yX5_fill yX5_fill, Cond.code yX5_fill cX5_fill 6 (some .int), Cond.methodLink RL 48 yX4_output, Cond.instanceMethod yX4_output, Cond.selects RX4 yX4_output yX4_output, Cond.code yX4_output cX4_output 6 (some .int), Cond.constantLong RX4 99 (4611686018427387904), Cond.methodLink RX4 108 yX2_writeOutput, Cond.instanceMethod yX2_writeOutput, Cond.selects RX2 yX2_writeOutput yX2_writeOutput]
def wsL_law_r15 : List Cond := [Cond.code yX2_writeOutput cX2_writeOutput 7 none, Cond.constantLong RX2 51 (63), Cond.methodLink RX2 42 yX0_keepFirst, Cond.methodLink RX2 48 yX2_makeRoot, Cond.methodLink RX2 53 yX2_run, Cond.methodLink RX2 56 yX2_outputByte, Cond.instanceMethod yX2_outputByte, Cond.selects RX2 yX2_outputByte yX2_outputByte, Cond.code yX2_outputByte cX2_outputByte 2 (some .int), Cond.methodLink RX2 59 yX0_append, Cond.methodLink RL 52 yX5_output, Cond.instanceMethod yX5_output, Cond.selects RX5 yX5_output yX5_output, Cond.code yX5_output cX5_output 12 (some .int), Cond.constantLong RX5 163 (4611686018427387904), Cond.constantLong RX5 172 (-1), Cond.constantLong RX5 174 (64), Cond.constantLong RX5 176 (4), Cond.methodLink RX5 165 yX5_in, Cond.static yX5_in, Cond.code yX5_in cX5_in 6 (some .boolean), Cond.methodLink RX5 169 yX5_rootOf, Cond.instanceMethod yX5_rootOf, Cond.selects RX5 yX5_rootOf yX5_rootOf]
def wsL_law_r16 : List Cond := [Cond.code yX5_rootOf cX5_rootOf 3 none, Cond.fieldLink RX5 117 "TreeHashesModel" "high" "I", Cond.methodLink RX5 160 yX5_pileOf, Cond.instanceMethod yX5_pileOf, Cond.selects RX5 yX5_pileOf yX5_pileOf, Cond.code yX5_pileOf cX5_pileOf 5 none, Cond.methodLink RX5 142 yX5_closedOf, Cond.instanceMethod yX5_closedOf, Cond.selects RX5 yX5_closedOf yX5_closedOf, Cond.code yX5_closedOf cX5_closedOf 2 (some .int), Cond.methodLink RX5 126 yX5_beginPile, Cond.instanceMethod yX5_beginPile, Cond.selects RX5 yX5_beginPile yX5_beginPile, Cond.code yX5_beginPile cX5_beginPile 1 none, Cond.fieldLink RX5 120 "TreeHashesModel" "closed" "I", Cond.methodLink RX5 136 yX5_close, Cond.instanceMethod yX5_close, Cond.selects RX5 yX5_close yX5_close, Cond.code yX5_close cX5_close 2 none, Cond.methodLink RX5 123 yX5_parent, Cond.instanceMethod yX5_parent, Cond.selects RX5 yX5_parent yX5_parent, Cond.code yX5_parent cX5_parent 2 none, Cond.methodLink RL 53 yX4_copy]
def wsL_law_r17 : List Cond := [Cond.instanceMethod yX4_copy, Cond.selects RX4 yX4_copy yX4_copy, Cond.code yX4_copy cX4_copy 3 (some .int), Cond.methodLink RX4 112 yX1_becomeAs, Cond.instanceMethod yX1_becomeAs, Cond.selects RX1 yX1_becomeAs yX1_becomeAs, Cond.code yX1_becomeAs cX1_becomeAs 2 none, Cond.methodLink RL 56 yX5_copy, Cond.instanceMethod yX5_copy, Cond.selects RX5 yX5_copy yX5_copy, Cond.code yX5_copy cX5_copy 4 (some .int), Cond.methodLink RL 57 yX4_told, Cond.instanceMethod yX4_told, Cond.selects RX4 yX4_told yX4_told, Cond.code yX4_told cX4_told 3 (some .int), Cond.methodLink RX4 125 yX1_inChunk, Cond.instanceMethod yX1_inChunk, Cond.selects RX1 yX1_inChunk yX1_inChunk, Cond.code yX1_inChunk cX1_inChunk 1 (some .int), Cond.methodLink RL 60 yX5_told, Cond.instanceMethod yX5_told, Cond.selects RX5 yX5_told yX5_told, Cond.code yX5_told cX5_told 6 (some .int), Cond.methodLink RL 61 yX4_chain]
def wsL_law_r18 : List Cond := [Cond.instanceMethod yX4_chain, Cond.selects RX4 yX4_chain yX4_chain, Cond.code yX4_chain cX4_chain 4 (some .int), Cond.methodLink RX4 129 yX1_stackWord, Cond.instanceMethod yX1_stackWord, Cond.selects RX1 yX1_stackWord yX1_stackWord, Cond.code yX1_stackWord cX1_stackWord 3 (some .int), Cond.methodLink RL 64 yX5_chain, Cond.instanceMethod yX5_chain, Cond.selects RX5 yX5_chain yX5_chain, Cond.code yX5_chain cX5_chain 4 (some .int), Cond.methodLink RL 65 yX4_grow, Cond.instanceMethod yX4_grow, Cond.selects RX4 yX4_grow yX4_grow, Cond.code yX4_grow cX4_grow 5 (some .int), Cond.methodLink RL 68 yX5_grow, Cond.instanceMethod yX5_grow, Cond.selects RX5 yX5_grow yX5_grow, Cond.code yX5_grow cX5_grow 5 (some .int), Cond.fieldLink RX5 178 "TreeHashesModel" "length" "I", Cond.methodLink RL 69 yX4_spoil, Cond.instanceMethod yX4_spoil, Cond.selects RX4 yX4_spoil yX4_spoil, Cond.code yX4_spoil cX4_spoil 3 (some .int)]
def wsL_law_r19 : List Cond := [Cond.methodLink RX4 133 yX0_change, Cond.instanceMethod yX0_change, Cond.selects RX0 yX0_change yX0_change, Cond.code yX0_change cX0_change 3 (some .int), Cond.methodLink RL 72 yX5_spoil, Cond.instanceMethod yX5_spoil, Cond.selects RX5 yX5_spoil yX5_spoil, Cond.code yX5_spoil cX5_spoil 3 (some .int), Cond.methodLink RL 73 yX4_shorten, Cond.instanceMethod yX4_shorten, Cond.selects RX4 yX4_shorten yX4_shorten, Cond.code yX4_shorten cX4_shorten 2 (some .int), Cond.methodLink RL 76 yX5_shorten, Cond.instanceMethod yX5_shorten, Cond.selects RX5 yX5_shorten yX5_shorten, Cond.code yX5_shorten cX5_shorten 3 (some .int), Cond.methodLink RL 77 yX4_root, Cond.instanceMethod yX4_root, Cond.selects RX4 yX4_root yX4_root, Cond.code yX4_root cX4_root 2 (some .int), Cond.methodLink RX4 136 yX4_prepareTree, Cond.instanceMethod yX4_prepareTree, Cond.selects RX4 yX4_prepareTree yX4_prepareTree, Cond.code yX4_prepareTree cX4_prepareTree 5 none]
def wsL_law_r20 : List Cond := [Cond.methodLink RL 80 yX5_root, Cond.instanceMethod yX5_root, Cond.selects RX5 yX5_root yX5_root, Cond.code yX5_root cX5_root 3 (some .int), Cond.methodLink RX5 181 yX5_chunksOf, Cond.static yX5_chunksOf, Cond.code yX5_chunksOf cX5_chunksOf 1 (some .int), Cond.methodLink RX5 184 yX5_tree, Cond.instanceMethod yX5_tree, Cond.selects RX5 yX5_tree yX5_tree, Cond.code yX5_tree cX5_tree 7 none, Cond.methodLink RX5 129 yX5_chunkSize, Cond.static yX5_chunkSize, Cond.code yX5_chunkSize cX5_chunkSize 2 (some .int), Cond.methodLink RL 81 yX4_prove, Cond.instanceMethod yX4_prove, Cond.selects RX4 yX4_prove yX4_prove, Cond.code yX4_prove cX4_prove 5 (some .int), Cond.methodLink RX4 166 Lib.Math.min.name, Cond.static Lib.Math.min.name, Cond.code Lib.Math.min.name Lib.Math.min.code 2 (some .int), Cond.methodLink RX4 140 yX4_hasChunk, Cond.static yX4_hasChunk, Cond.code yX4_hasChunk cX4_hasChunk 2 (some .boolean)]
def wsL_law_r21 : List Cond := [Cond.methodLink RX4 150 yX4_chunksOf, Cond.static yX4_chunksOf, Cond.code yX4_chunksOf cX4_chunksOf 1 (some .int), Cond.methodLink RX4 144 yX4_chunkLength, Cond.static yX4_chunkLength, Cond.code yX4_chunkLength cX4_chunkLength 2 (some .int), Cond.methodLink RX4 147 yX0_appendFrom, Cond.instanceMethod yX0_appendFrom, Cond.selects RX0 yX0_appendFrom yX0_appendFrom, Cond.code yX0_appendFrom cX0_appendFrom 5 none, Cond.methodLink RX0 25 yX0_append, Cond.methodLink RX4 153 yX3_lead, Cond.instanceMethod yX3_lead, Cond.selects RX3 yX3_lead yX3_lead, Cond.code yX3_lead cX3_lead 6 none, Cond.fieldLink RX3 16 "TreeHashes$Way" "levels" "I", Cond.methodLink RX3 20 yX3_leftOf, Cond.static yX3_leftOf, Cond.code yX3_leftOf cX3_leftOf 3 (some .int), Cond.methodLink RX4 178 yX0_appendChain, Cond.instanceMethod yX0_appendChain, Cond.selects RX0 yX0_appendChain yX0_appendChain, Cond.code yX0_appendChain cX0_appendChain 3 none, Cond.methodLink RL 84 yX5_prove]
def wsL_law_r22 : List Cond := [Cond.instanceMethod yX5_prove, Cond.selects RX5 yX5_prove yX5_prove, Cond.code yX5_prove cX5_prove 9 (some .int), Cond.fieldLink RX5 188 "TreeHashesModel" "proofSize" "I", Cond.methodLink RX5 191 yX5_leftOf, Cond.static yX5_leftOf, Cond.code yX5_leftOf cX5_leftOf 2 (some .int), Cond.methodLink RL 85 yX4_proof, Cond.instanceMethod yX4_proof, Cond.selects RX4 yX4_proof yX4_proof, Cond.code yX4_proof cX4_proof 2 (some .int), Cond.methodLink RL 88 yX5_proof, Cond.instanceMethod yX5_proof, Cond.selects RX5 yX5_proof yX5_proof, Cond.code yX5_proof cX5_proof 2 (some .int), Cond.methodLink RL 89 yX4_forge, Cond.instanceMethod yX4_forge, Cond.selects RX4 yX4_forge yX4_forge, Cond.code yX4_forge cX4_forge 3 (some .int), Cond.methodLink RL 92 yX5_forge, Cond.instanceMethod yX5_forge, Cond.selects RX5 yX5_forge yX5_forge, Cond.code yX5_forge cX5_forge 3 (some .int), Cond.methodLink RL 93 yX4_cut]
def wsL_law_r23 : List Cond := [Cond.instanceMethod yX4_cut, Cond.selects RX4 yX4_cut yX4_cut, Cond.code yX4_cut cX4_cut 2 (some .int), Cond.methodLink RL 96 yX5_cut, Cond.instanceMethod yX5_cut, Cond.selects RX5 yX5_cut yX5_cut, Cond.code yX5_cut cX5_cut 3 (some .int), Cond.methodLink RL 97 yX4_check, Cond.instanceMethod yX4_check, Cond.selects RX4 yX4_check yX4_check, Cond.code yX4_check cX4_check 5 (some .int), Cond.constant RX4 182 (1000000), Cond.methodLink RX4 183 yX4_climb, Cond.instanceMethod yX4_climb, Cond.selects RX4 yX4_climb yX4_climb, Cond.code yX4_climb cX4_climb 4 none, Cond.methodLink RX4 193 yX2_joinBehind, Cond.methodLink RX4 197 yX2_joinBefore, Cond.instanceMethod yX2_joinBefore, Cond.selects RX2 yX2_joinBefore yX2_joinBefore, Cond.code yX2_joinBefore cX2_joinBefore 6 none, Cond.methodLink RX4 186 yX2_rootBeginsWith, Cond.instanceMethod yX2_rootBeginsWith, Cond.selects RX2 yX2_rootBeginsWith yX2_rootBeginsWith]
def wsL_law_r24 : List Cond := [Cond.code yX2_rootBeginsWith cX2_rootBeginsWith 3 (some .boolean), Cond.methodLink RX2 63 yX0_byteAt, Cond.methodLink RL 100 yX5_check, Cond.instanceMethod yX5_check, Cond.selects RX5 yX5_check yX5_check, Cond.code yX5_check cX5_check 12 (some .int), Cond.constant RX5 194 (1000000)]
def wsL_law : List Cond := (wsL_law_r1 ++ (wsL_law_r2 ++ (wsL_law_r3 ++ (wsL_law_r4 ++ (wsL_law_r5 ++ (wsL_law_r6 ++ (wsL_law_r7 ++ (wsL_law_r8 ++ (wsL_law_r9 ++ (wsL_law_r10 ++ (wsL_law_r11 ++ (wsL_law_r12 ++ (wsL_law_r13 ++ (wsL_law_r14 ++ (wsL_law_r15 ++ (wsL_law_r16 ++ (wsL_law_r17 ++ (wsL_law_r18 ++ (wsL_law_r19 ++ (wsL_law_r20 ++ (wsL_law_r21 ++ (wsL_law_r22 ++ (wsL_law_r23 ++ wsL_law_r24))))))))))))))))))))))) ++ wsX40 ++ wsX50 ++ wsX00 ++ wsX10 ++ wsX30 ++ wsX20 ++ ([] : List Cond)
abbrev vwCl : List vw_C := [(RX0, TX0, 2), (RX1, TX1, 13), (RX2, TX2, 8), (RX3, TX3, 3), (RX4, TX4, 7), (RX5, TX5, 28)]
end
section
theorem dX0_init_0 : decode cX0_init 0 = .ok (.aload_n 0, 1) := by decide +kernel
theorem dX0_init_1 : decode cX0_init 1 = .ok (.invokespecial 3, 3) := by decide +kernel
theorem dX0_init_4 : decode cX0_init 4 = .ok (.aload_n 0, 1) := by decide +kernel
theorem dX0_init_5 : decode cX0_init 5 = .ok (.iconst 0, 1) := by decide +kernel
theorem dX0_init_6 : decode cX0_init 6 = .ok (.iload_n 1, 1) := by decide +kernel
theorem dX0_init_7 : decode cX0_init 7 = .ok (.invokestatic 9, 3) := by decide +kernel
theorem dX0_init_10 : decode cX0_init 10 = .ok (.newarray .byte, 2) := by decide +kernel
theorem dX0_init_12 : decode cX0_init 12 = .ok (.putfield 15, 3) := by decide +kernel
theorem dX0_init_15 : decode cX0_init 15 = .ok (.return_, 1) := by decide +kernel
theorem dX0_hasRoomFor_0 : decode cX0_hasRoomFor 0 = .ok (.iload_n 1, 1) := by decide +kernel
theorem dX0_hasRoomFor_1 : decode cX0_hasRoomFor 1 = .ok (.aload_n 0, 1) := by decide +kernel
theorem dX0_hasRoomFor_2 : decode cX0_hasRoomFor 2 = .ok (.getfield 15, 3) := by decide +kernel
theorem dX0_hasRoomFor_5 : decode cX0_hasRoomFor 5 = .ok (.arraylength, 1) := by decide +kernel
theorem dX0_hasRoomFor_6 : decode cX0_hasRoomFor 6 = .ok (.aload_n 0, 1) := by decide +kernel
theorem dX0_hasRoomFor_7 : decode cX0_hasRoomFor 7 = .ok (.getfield 21, 3) := by decide +kernel
theorem dX0_hasRoomFor_10 : decode cX0_hasRoomFor 10 = .ok (.isub, 1) := by decide +kernel
theorem dX0_hasRoomFor_11 : decode cX0_hasRoomFor 11 = .ok (.if_icmp .gt 7, 3) := by decide +kernel
theorem dX0_hasRoomFor_14 : decode cX0_hasRoomFor 14 = .ok (.iconst 1, 1) := by decide +kernel
theorem dX0_hasRoomFor_15 : decode cX0_hasRoomFor 15 = .ok (.goto 4, 3) := by decide +kernel
theorem dX0_hasRoomFor_18 : decode cX0_hasRoomFor 18 = .ok (.iconst 0, 1) := by decide +kernel
theorem dX0_hasRoomFor_19 : decode cX0_hasRoomFor 19 = .ok (.ireturn, 1) := by decide +kernel
theorem dX0_byteAt_0 : decode cX0_byteAt 0 = .ok (.iload_n 1, 1) := by decide +kernel
theorem dX0_byteAt_1 : decode cX0_byteAt 1 = .ok (.ifCond .lt 24, 3) := by decide +kernel
theorem dX0_byteAt_4 : decode cX0_byteAt 4 = .ok (.iload_n 1, 1) := by decide +kernel
theorem dX0_byteAt_5 : decode cX0_byteAt 5 = .ok (.aload_n 0, 1) := by decide +kernel
theorem dX0_byteAt_6 : decode cX0_byteAt 6 = .ok (.getfield 21, 3) := by decide +kernel
theorem dX0_byteAt_9 : decode cX0_byteAt 9 = .ok (.if_icmp .ge 16, 3) := by decide +kernel
theorem dX0_byteAt_12 : decode cX0_byteAt 12 = .ok (.aload_n 0, 1) := by decide +kernel
theorem dX0_byteAt_13 : decode cX0_byteAt 13 = .ok (.getfield 15, 3) := by decide +kernel
theorem dX0_byteAt_16 : decode cX0_byteAt 16 = .ok (.iload_n 1, 1) := by decide +kernel
theorem dX0_byteAt_17 : decode cX0_byteAt 17 = .ok (.baload, 1) := by decide +kernel
theorem dX0_byteAt_18 : decode cX0_byteAt 18 = .ok (.sipush 255, 3) := by decide +kernel
theorem dX0_byteAt_21 : decode cX0_byteAt 21 = .ok (.iand, 1) := by decide +kernel
theorem dX0_byteAt_22 : decode cX0_byteAt 22 = .ok (.goto 4, 3) := by decide +kernel
theorem dX0_byteAt_25 : decode cX0_byteAt 25 = .ok (.iconst (-1), 1) := by decide +kernel
theorem dX0_byteAt_26 : decode cX0_byteAt 26 = .ok (.ireturn, 1) := by decide +kernel
theorem dX0_append_0 : decode cX0_append 0 = .ok (.aload_n 0, 1) := by decide +kernel
theorem dX0_append_1 : decode cX0_append 1 = .ok (.getfield 21, 3) := by decide +kernel
theorem dX0_append_4 : decode cX0_append 4 = .ok (.aload_n 0, 1) := by decide +kernel
theorem dX0_append_5 : decode cX0_append 5 = .ok (.getfield 15, 3) := by decide +kernel
theorem dX0_append_8 : decode cX0_append 8 = .ok (.arraylength, 1) := by decide +kernel
theorem dX0_append_9 : decode cX0_append 9 = .ok (.if_icmp .ge 24, 3) := by decide +kernel
theorem dX0_append_12 : decode cX0_append 12 = .ok (.aload_n 0, 1) := by decide +kernel
theorem dX0_append_13 : decode cX0_append 13 = .ok (.getfield 15, 3) := by decide +kernel
theorem dX0_append_16 : decode cX0_append 16 = .ok (.aload_n 0, 1) := by decide +kernel
theorem dX0_append_17 : decode cX0_append 17 = .ok (.getfield 21, 3) := by decide +kernel
theorem dX0_append_20 : decode cX0_append 20 = .ok (.iload_n 1, 1) := by decide +kernel
theorem dX0_append_21 : decode cX0_append 21 = .ok (.i2b, 1) := by decide +kernel
theorem dX0_append_22 : decode cX0_append 22 = .ok (.bastore, 1) := by decide +kernel
theorem dX0_append_23 : decode cX0_append 23 = .ok (.aload_n 0, 1) := by decide +kernel
theorem dX0_append_24 : decode cX0_append 24 = .ok (.dup, 1) := by decide +kernel
theorem dX0_append_25 : decode cX0_append 25 = .ok (.getfield 21, 3) := by decide +kernel
theorem dX0_append_28 : decode cX0_append 28 = .ok (.iconst 1, 1) := by decide +kernel
theorem dX0_append_29 : decode cX0_append 29 = .ok (.iadd, 1) := by decide +kernel
theorem dX0_append_30 : decode cX0_append 30 = .ok (.putfield 21, 3) := by decide +kernel
theorem dX0_append_33 : decode cX0_append 33 = .ok (.return_, 1) := by decide +kernel
set_option maxRecDepth 20000 in
theorem ggX0_appendChain_X0_append : GoodIn wsX0_appendChain wsX0_append := goodIn_r _ [5, 6, 7, 8, 9] (by decide +kernel) (by decide +kernel)
set_option maxRecDepth 20000 in
theorem gX0_appendChain_X0_append : GoodIn wsX0_appendChain (wsV RX0 25 RX0 yX0_append wsX0_append) := goodIn_app (goodIn_of _ (by decide +kernel)) ggX0_appendChain_X0_append
theorem dX0_appendChain_0 : decode cX0_appendChain 0 = .ok (.iconst 0, 1) := by decide +kernel
theorem dX0_appendChain_1 : decode cX0_appendChain 1 = .ok (.istore_n 2, 1) := by decide +kernel
theorem dX0_appendChain_2 : decode cX0_appendChain 2 = .ok (.iload_n 2, 1) := by decide +kernel
theorem dX0_appendChain_3 : decode cX0_appendChain 3 = .ok (.iconst 4, 1) := by decide +kernel
theorem dX0_appendChain_4 : decode cX0_appendChain 4 = .ok (.aload_n 1, 1) := by decide +kernel
theorem dX0_appendChain_5 : decode cX0_appendChain 5 = .ok (.arraylength, 1) := by decide +kernel
theorem dX0_appendChain_6 : decode cX0_appendChain 6 = .ok (.imul, 1) := by decide +kernel
theorem dX0_appendChain_7 : decode cX0_appendChain 7 = .ok (.if_icmp .ge 25, 3) := by decide +kernel
theorem dX0_appendChain_10 : decode cX0_appendChain 10 = .ok (.aload_n 0, 1) := by decide +kernel
theorem dX0_appendChain_11 : decode cX0_appendChain 11 = .ok (.aload_n 1, 1) := by decide +kernel
theorem dX0_appendChain_12 : decode cX0_appendChain 12 = .ok (.iload_n 2, 1) := by decide +kernel
theorem dX0_appendChain_13 : decode cX0_appendChain 13 = .ok (.iconst 2, 1) := by decide +kernel
theorem dX0_appendChain_14 : decode cX0_appendChain 14 = .ok (.ishr, 1) := by decide +kernel
theorem dX0_appendChain_15 : decode cX0_appendChain 15 = .ok (.iaload, 1) := by decide +kernel
theorem dX0_appendChain_16 : decode cX0_appendChain 16 = .ok (.bipush 8, 2) := by decide +kernel
theorem dX0_appendChain_18 : decode cX0_appendChain 18 = .ok (.iload_n 2, 1) := by decide +kernel
theorem dX0_appendChain_19 : decode cX0_appendChain 19 = .ok (.iconst 3, 1) := by decide +kernel
theorem dX0_appendChain_20 : decode cX0_appendChain 20 = .ok (.iand, 1) := by decide +kernel
theorem dX0_appendChain_21 : decode cX0_appendChain 21 = .ok (.imul, 1) := by decide +kernel
theorem dX0_appendChain_22 : decode cX0_appendChain 22 = .ok (.iushr, 1) := by decide +kernel
theorem dX0_appendChain_23 : decode cX0_appendChain 23 = .ok (.invokevirtual 25, 3) := by decide +kernel
theorem dX0_appendChain_26 : decode cX0_appendChain 26 = .ok (.iinc 2 1, 3) := by decide +kernel
theorem dX0_appendChain_29 : decode cX0_appendChain 29 = .ok (.goto (-27), 3) := by decide +kernel
theorem dX0_appendChain_32 : decode cX0_appendChain 32 = .ok (.return_, 1) := by decide +kernel
set_option maxRecDepth 20000 in
theorem ggX0_appendFrom_X0_byteAt : GoodIn wsX0_appendFrom wsX0_byteAt := goodIn_r _ [5, 6, 7, 12, 13] (by decide +kernel) (by decide +kernel)
set_option maxRecDepth 20000 in
theorem gX0_appendFrom_X0_byteAt : GoodIn wsX0_appendFrom (wsV RX0 29 RX0 yX0_byteAt wsX0_byteAt) := goodIn_app (goodIn_of _ (by decide +kernel)) ggX0_appendFrom_X0_byteAt
set_option maxRecDepth 20000 in
theorem ggX0_appendFrom_X0_append : GoodIn wsX0_appendFrom wsX0_append := goodIn_r _ [11, 6, 7, 12, 13] (by decide +kernel) (by decide +kernel)
set_option maxRecDepth 20000 in
theorem gX0_appendFrom_X0_append : GoodIn wsX0_appendFrom (wsV RX0 25 RX0 yX0_append wsX0_append) := goodIn_app (goodIn_of _ (by decide +kernel)) ggX0_appendFrom_X0_append
theorem dX0_appendFrom_0 : decode cX0_appendFrom 0 = .ok (.iconst 0, 1) := by decide +kernel
theorem dX0_appendFrom_1 : decode cX0_appendFrom 1 = .ok (.istore 4, 2) := by decide +kernel
theorem dX0_appendFrom_3 : decode cX0_appendFrom 3 = .ok (.iload 4, 2) := by decide +kernel
theorem dX0_appendFrom_5 : decode cX0_appendFrom 5 = .ok (.iload_n 3, 1) := by decide +kernel
theorem dX0_appendFrom_6 : decode cX0_appendFrom 6 = .ok (.if_icmp .ge 21, 3) := by decide +kernel
theorem dX0_appendFrom_9 : decode cX0_appendFrom 9 = .ok (.aload_n 0, 1) := by decide +kernel
theorem dX0_appendFrom_10 : decode cX0_appendFrom 10 = .ok (.aload_n 1, 1) := by decide +kernel
theorem dX0_appendFrom_11 : decode cX0_appendFrom 11 = .ok (.iload_n 2, 1) := by decide +kernel
theorem dX0_appendFrom_12 : decode cX0_appendFrom 12 = .ok (.iload 4, 2) := by decide +kernel
theorem dX0_appendFrom_14 : decode cX0_appendFrom 14 = .ok (.iadd, 1) := by decide +kernel
theorem dX0_appendFrom_15 : decode cX0_appendFrom 15 = .ok (.invokevirtual 29, 3) := by decide +kernel
theorem dX0_appendFrom_18 : decode cX0_appendFrom 18 = .ok (.invokevirtual 25, 3) := by decide +kernel
theorem dX0_appendFrom_21 : decode cX0_appendFrom 21 = .ok (.iinc 4 1, 3) := by decide +kernel
theorem dX0_appendFrom_24 : decode cX0_appendFrom 24 = .ok (.goto (-21), 3) := by decide +kernel
theorem dX0_appendFrom_27 : decode cX0_appendFrom 27 = .ok (.return_, 1) := by decide +kernel
theorem dX0_keepFirst_0 : decode cX0_keepFirst 0 = .ok (.iload_n 1, 1) := by decide +kernel
theorem dX0_keepFirst_1 : decode cX0_keepFirst 1 = .ok (.ifCond .lt 11, 3) := by decide +kernel
theorem dX0_keepFirst_4 : decode cX0_keepFirst 4 = .ok (.iload_n 1, 1) := by decide +kernel
theorem dX0_keepFirst_5 : decode cX0_keepFirst 5 = .ok (.aload_n 0, 1) := by decide +kernel
theorem dX0_keepFirst_6 : decode cX0_keepFirst 6 = .ok (.getfield 21, 3) := by decide +kernel
theorem dX0_keepFirst_9 : decode cX0_keepFirst 9 = .ok (.if_icmp .le 6, 3) := by decide +kernel
theorem dX0_keepFirst_12 : decode cX0_keepFirst 12 = .ok (.bipush (-2), 2) := by decide +kernel
theorem dX0_keepFirst_14 : decode cX0_keepFirst 14 = .ok (.ireturn, 1) := by decide +kernel
theorem dX0_keepFirst_15 : decode cX0_keepFirst 15 = .ok (.aload_n 0, 1) := by decide +kernel
theorem dX0_keepFirst_16 : decode cX0_keepFirst 16 = .ok (.getfield 21, 3) := by decide +kernel
theorem dX0_keepFirst_19 : decode cX0_keepFirst 19 = .ok (.iload_n 1, 1) := by decide +kernel
theorem dX0_keepFirst_20 : decode cX0_keepFirst 20 = .ok (.isub, 1) := by decide +kernel
theorem dX0_keepFirst_21 : decode cX0_keepFirst 21 = .ok (.istore_n 2, 1) := by decide +kernel
theorem dX0_keepFirst_22 : decode cX0_keepFirst 22 = .ok (.aload_n 0, 1) := by decide +kernel
theorem dX0_keepFirst_23 : decode cX0_keepFirst 23 = .ok (.iload_n 1, 1) := by decide +kernel
theorem dX0_keepFirst_24 : decode cX0_keepFirst 24 = .ok (.putfield 21, 3) := by decide +kernel
theorem dX0_keepFirst_27 : decode cX0_keepFirst 27 = .ok (.iload_n 2, 1) := by decide +kernel
theorem dX0_keepFirst_28 : decode cX0_keepFirst 28 = .ok (.ireturn, 1) := by decide +kernel
theorem dX0_change_0 : decode cX0_change 0 = .ok (.iload_n 1, 1) := by decide +kernel
theorem dX0_change_1 : decode cX0_change 1 = .ok (.ifCond .lt 22, 3) := by decide +kernel
theorem dX0_change_4 : decode cX0_change 4 = .ok (.iload_n 1, 1) := by decide +kernel
theorem dX0_change_5 : decode cX0_change 5 = .ok (.aload_n 0, 1) := by decide +kernel
theorem dX0_change_6 : decode cX0_change 6 = .ok (.getfield 21, 3) := by decide +kernel
theorem dX0_change_9 : decode cX0_change 9 = .ok (.if_icmp .ge 14, 3) := by decide +kernel
theorem dX0_change_12 : decode cX0_change 12 = .ok (.iload_n 2, 1) := by decide +kernel
theorem dX0_change_13 : decode cX0_change 13 = .ok (.ifCond .lt 10, 3) := by decide +kernel
theorem dX0_change_16 : decode cX0_change 16 = .ok (.iload_n 2, 1) := by decide +kernel
theorem dX0_change_17 : decode cX0_change 17 = .ok (.sipush 255, 3) := by decide +kernel
theorem dX0_change_20 : decode cX0_change 20 = .ok (.if_icmp .le 6, 3) := by decide +kernel
theorem dX0_change_23 : decode cX0_change 23 = .ok (.bipush (-2), 2) := by decide +kernel
theorem dX0_change_25 : decode cX0_change 25 = .ok (.ireturn, 1) := by decide +kernel
theorem dX0_change_26 : decode cX0_change 26 = .ok (.aload_n 0, 1) := by decide +kernel
theorem dX0_change_27 : decode cX0_change 27 = .ok (.getfield 15, 3) := by decide +kernel
theorem dX0_change_30 : decode cX0_change 30 = .ok (.iload_n 1, 1) := by decide +kernel
theorem dX0_change_31 : decode cX0_change 31 = .ok (.aload_n 0, 1) := by decide +kernel
theorem dX0_change_32 : decode cX0_change 32 = .ok (.getfield 15, 3) := by decide +kernel
theorem dX0_change_35 : decode cX0_change 35 = .ok (.iload_n 1, 1) := by decide +kernel
theorem dX0_change_36 : decode cX0_change 36 = .ok (.baload, 1) := by decide +kernel
theorem dX0_change_37 : decode cX0_change 37 = .ok (.iload_n 2, 1) := by decide +kernel
theorem dX0_change_38 : decode cX0_change 38 = .ok (.ixor, 1) := by decide +kernel
theorem dX0_change_39 : decode cX0_change 39 = .ok (.i2b, 1) := by decide +kernel
theorem dX0_change_40 : decode cX0_change 40 = .ok (.bastore, 1) := by decide +kernel
theorem dX0_change_41 : decode cX0_change 41 = .ok (.aload_n 0, 1) := by decide +kernel
theorem dX0_change_42 : decode cX0_change 42 = .ok (.getfield 15, 3) := by decide +kernel
theorem dX0_change_45 : decode cX0_change 45 = .ok (.iload_n 1, 1) := by decide +kernel
theorem dX0_change_46 : decode cX0_change 46 = .ok (.baload, 1) := by decide +kernel
theorem dX0_change_47 : decode cX0_change 47 = .ok (.sipush 255, 3) := by decide +kernel
theorem dX0_change_50 : decode cX0_change 50 = .ok (.iand, 1) := by decide +kernel
theorem dX0_change_51 : decode cX0_change 51 = .ok (.ireturn, 1) := by decide +kernel
set_option maxRecDepth 20000 in
theorem ggX0_readChain_X0_wordAt : GoodIn wsX0_readChain wsX0_wordAt := goodIn_r _ [5, 6, 7, 8, 4, 9, 10, 11, 12, 13] (by decide +kernel) (by decide +kernel)
set_option maxRecDepth 20000 in
theorem gX0_readChain_X0_wordAt : GoodIn wsX0_readChain (wsV RX0 33 RX0 yX0_wordAt wsX0_wordAt) := goodIn_app (goodIn_of _ (by decide +kernel)) ggX0_readChain_X0_wordAt
theorem dX0_readChain_0 : decode cX0_readChain 0 = .ok (.iconst 0, 1) := by decide +kernel
theorem dX0_readChain_1 : decode cX0_readChain 1 = .ok (.istore_n 3, 1) := by decide +kernel
theorem dX0_readChain_2 : decode cX0_readChain 2 = .ok (.iload_n 3, 1) := by decide +kernel
theorem dX0_readChain_3 : decode cX0_readChain 3 = .ok (.bipush 8, 2) := by decide +kernel
theorem dX0_readChain_5 : decode cX0_readChain 5 = .ok (.if_icmp .ge 27, 3) := by decide +kernel
theorem dX0_readChain_8 : decode cX0_readChain 8 = .ok (.iload_n 3, 1) := by decide +kernel
theorem dX0_readChain_9 : decode cX0_readChain 9 = .ok (.aload_n 2, 1) := by decide +kernel
theorem dX0_readChain_10 : decode cX0_readChain 10 = .ok (.arraylength, 1) := by decide +kernel
theorem dX0_readChain_11 : decode cX0_readChain 11 = .ok (.if_icmp .ge 21, 3) := by decide +kernel
theorem dX0_readChain_14 : decode cX0_readChain 14 = .ok (.aload_n 2, 1) := by decide +kernel
theorem dX0_readChain_15 : decode cX0_readChain 15 = .ok (.iload_n 3, 1) := by decide +kernel
theorem dX0_readChain_16 : decode cX0_readChain 16 = .ok (.aload_n 0, 1) := by decide +kernel
theorem dX0_readChain_17 : decode cX0_readChain 17 = .ok (.iload_n 1, 1) := by decide +kernel
theorem dX0_readChain_18 : decode cX0_readChain 18 = .ok (.iconst 4, 1) := by decide +kernel
theorem dX0_readChain_19 : decode cX0_readChain 19 = .ok (.iload_n 3, 1) := by decide +kernel
theorem dX0_readChain_20 : decode cX0_readChain 20 = .ok (.imul, 1) := by decide +kernel
theorem dX0_readChain_21 : decode cX0_readChain 21 = .ok (.iadd, 1) := by decide +kernel
theorem dX0_readChain_22 : decode cX0_readChain 22 = .ok (.invokevirtual 33, 3) := by decide +kernel
theorem dX0_readChain_25 : decode cX0_readChain 25 = .ok (.iastore, 1) := by decide +kernel
theorem dX0_readChain_26 : decode cX0_readChain 26 = .ok (.iinc 3 1, 3) := by decide +kernel
theorem dX0_readChain_29 : decode cX0_readChain 29 = .ok (.goto (-27), 3) := by decide +kernel
theorem dX0_readChain_32 : decode cX0_readChain 32 = .ok (.return_, 1) := by decide +kernel
set_option maxRecDepth 20000 in
theorem ggX0_wordAt_X0_byteAt : GoodIn wsX0_wordAt wsX0_byteAt := goodIn_r _ [5, 6, 7, 8, 9] (by decide +kernel) (by decide +kernel)
set_option maxRecDepth 20000 in
theorem gX0_wordAt_X0_byteAt : GoodIn wsX0_wordAt (wsV RX0 29 RX0 yX0_byteAt wsX0_byteAt) := goodIn_app (goodIn_of _ (by decide +kernel)) ggX0_wordAt_X0_byteAt
theorem dX0_wordAt_0 : decode cX0_wordAt 0 = .ok (.aload_n 0, 1) := by decide +kernel
theorem dX0_wordAt_1 : decode cX0_wordAt 1 = .ok (.iload_n 1, 1) := by decide +kernel
theorem dX0_wordAt_2 : decode cX0_wordAt 2 = .ok (.invokevirtual 29, 3) := by decide +kernel
theorem dX0_wordAt_5 : decode cX0_wordAt 5 = .ok (.aload_n 0, 1) := by decide +kernel
theorem dX0_wordAt_6 : decode cX0_wordAt 6 = .ok (.iload_n 1, 1) := by decide +kernel
theorem dX0_wordAt_7 : decode cX0_wordAt 7 = .ok (.iconst 1, 1) := by decide +kernel
theorem dX0_wordAt_8 : decode cX0_wordAt 8 = .ok (.iadd, 1) := by decide +kernel
theorem dX0_wordAt_9 : decode cX0_wordAt 9 = .ok (.invokevirtual 29, 3) := by decide +kernel
theorem dX0_wordAt_12 : decode cX0_wordAt 12 = .ok (.bipush 8, 2) := by decide +kernel
theorem dX0_wordAt_14 : decode cX0_wordAt 14 = .ok (.ishl, 1) := by decide +kernel
theorem dX0_wordAt_15 : decode cX0_wordAt 15 = .ok (.ior, 1) := by decide +kernel
theorem dX0_wordAt_16 : decode cX0_wordAt 16 = .ok (.aload_n 0, 1) := by decide +kernel
theorem dX0_wordAt_17 : decode cX0_wordAt 17 = .ok (.iload_n 1, 1) := by decide +kernel
theorem dX0_wordAt_18 : decode cX0_wordAt 18 = .ok (.iconst 2, 1) := by decide +kernel
theorem dX0_wordAt_19 : decode cX0_wordAt 19 = .ok (.iadd, 1) := by decide +kernel
theorem dX0_wordAt_20 : decode cX0_wordAt 20 = .ok (.invokevirtual 29, 3) := by decide +kernel
theorem dX0_wordAt_23 : decode cX0_wordAt 23 = .ok (.bipush 16, 2) := by decide +kernel
theorem dX0_wordAt_25 : decode cX0_wordAt 25 = .ok (.ishl, 1) := by decide +kernel
theorem dX0_wordAt_26 : decode cX0_wordAt 26 = .ok (.ior, 1) := by decide +kernel
theorem dX0_wordAt_27 : decode cX0_wordAt 27 = .ok (.aload_n 0, 1) := by decide +kernel
theorem dX0_wordAt_28 : decode cX0_wordAt 28 = .ok (.iload_n 1, 1) := by decide +kernel
theorem dX0_wordAt_29 : decode cX0_wordAt 29 = .ok (.iconst 3, 1) := by decide +kernel
theorem dX0_wordAt_30 : decode cX0_wordAt 30 = .ok (.iadd, 1) := by decide +kernel
theorem dX0_wordAt_31 : decode cX0_wordAt 31 = .ok (.invokevirtual 29, 3) := by decide +kernel
theorem dX0_wordAt_34 : decode cX0_wordAt 34 = .ok (.bipush 24, 2) := by decide +kernel
theorem dX0_wordAt_36 : decode cX0_wordAt 36 = .ok (.ishl, 1) := by decide +kernel
theorem dX0_wordAt_37 : decode cX0_wordAt 37 = .ok (.ior, 1) := by decide +kernel
theorem dX0_wordAt_38 : decode cX0_wordAt 38 = .ok (.ireturn, 1) := by decide +kernel
set_option maxRecDepth 20000 in
theorem ggX1_init_X2_init : GoodIn wsX1_init wsX2_init := goodIn_r _ [15, 16, 2, 3, 8, 17, 18, 19, 20, 21, 46, 47, 48, 49, 50, 51, 52, 53] (by decide +kernel) (by decide +kernel)
set_option maxRecDepth 20000 in
theorem gX1_init_X2_init_n13 : GoodIn wsX1_init (wsX2_init) := ggX1_init_X2_init
set_option maxRecDepth 20000 in
theorem ggX1_init_X1_restart : GoodIn wsX1_init wsX1_restart := goodIn_r _ [26, 9, 27, 28, 29, 30, 31, 32, 33, 34, 25, 35, 36, 37, 38, 39, 11, 40, 41, 42, 43, 44, 12, 45, 54, 55, 56, 57, 58, 59, 60, 61, 62, 63, 64, 65, 66] (by decide +kernel) (by decide +kernel)
set_option maxRecDepth 20000 in
theorem gX1_init_X1_restart : GoodIn wsX1_init (wsV RX1 34 RX1 yX1_restart wsX1_restart) := goodIn_app (goodIn_of _ (by decide +kernel)) ggX1_init_X1_restart
theorem dX1_init_0 : decode cX1_init 0 = .ok (.aload_n 0, 1) := by decide +kernel
theorem dX1_init_1 : decode cX1_init 1 = .ok (.invokespecial 5, 3) := by decide +kernel
theorem dX1_init_4 : decode cX1_init 4 = .ok (.aload_n 0, 1) := by decide +kernel
theorem dX1_init_5 : decode cX1_init 5 = .ok (.new 11, 3) := by decide +kernel
theorem dX1_init_8 : decode cX1_init 8 = .ok (.dup, 1) := by decide +kernel
theorem dX1_init_9 : decode cX1_init 9 = .ok (.invokespecial 13, 3) := by decide +kernel
theorem dX1_init_12 : decode cX1_init 12 = .ok (.putfield 14, 3) := by decide +kernel
theorem dX1_init_15 : decode cX1_init 15 = .ok (.aload_n 0, 1) := by decide +kernel
theorem dX1_init_16 : decode cX1_init 16 = .ok (.bipush 8, 2) := by decide +kernel
theorem dX1_init_18 : decode cX1_init 18 = .ok (.newarray .int, 2) := by decide +kernel
theorem dX1_init_20 : decode cX1_init 20 = .ok (.putfield 18, 3) := by decide +kernel
theorem dX1_init_23 : decode cX1_init 23 = .ok (.aload_n 0, 1) := by decide +kernel
theorem dX1_init_24 : decode cX1_init 24 = .ok (.bipush 40, 2) := by decide +kernel
theorem dX1_init_26 : decode cX1_init 26 = .ok (.newarray .int, 2) := by decide +kernel
theorem dX1_init_28 : decode cX1_init 28 = .ok (.putfield 22, 3) := by decide +kernel
theorem dX1_init_31 : decode cX1_init 31 = .ok (.aload_n 0, 1) := by decide +kernel
theorem dX1_init_32 : decode cX1_init 32 = .ok (.bipush 8, 2) := by decide +kernel
theorem dX1_init_34 : decode cX1_init 34 = .ok (.newarray .int, 2) := by decide +kernel
theorem dX1_init_36 : decode cX1_init 36 = .ok (.putfield 25, 3) := by decide +kernel
theorem dX1_init_39 : decode cX1_init 39 = .ok (.aload_n 0, 1) := by decide +kernel
theorem dX1_init_40 : decode cX1_init 40 = .ok (.bipush 16, 2) := by decide +kernel
theorem dX1_init_42 : decode cX1_init 42 = .ok (.newarray .int, 2) := by decide +kernel
theorem dX1_init_44 : decode cX1_init 44 = .ok (.putfield 28, 3) := by decide +kernel
theorem dX1_init_47 : decode cX1_init 47 = .ok (.aload_n 0, 1) := by decide +kernel
theorem dX1_init_48 : decode cX1_init 48 = .ok (.iconst 0, 1) := by decide +kernel
theorem dX1_init_49 : decode cX1_init 49 = .ok (.iconst 0, 1) := by decide +kernel
theorem dX1_init_50 : decode cX1_init 50 = .ok (.getstatic 31, 3) := by decide +kernel
theorem dX1_init_53 : decode cX1_init 53 = .ok (.iconst 0, 1) := by decide +kernel
theorem dX1_init_54 : decode cX1_init 54 = .ok (.invokevirtual 34, 3) := by decide +kernel
theorem dX1_init_57 : decode cX1_init 57 = .ok (.return_, 1) := by decide +kernel
set_option maxRecDepth 20000 in
theorem ggX1_restart_X1_copyWords : GoodIn wsX1_restart wsX1_copyWords := goodIn_r _ [11] (by decide +kernel) (by decide +kernel)
set_option maxRecDepth 20000 in
theorem gX1_restart_X1_copyWords : GoodIn wsX1_restart (va_wsS RX1 38 yX1_copyWords wsX1_copyWords) := goodIn_app (goodIn_of _ (by decide +kernel)) ggX1_restart_X1_copyWords
set_option maxRecDepth 20000 in
theorem ggX1_restart_X1_startChunk : GoodIn wsX1_restart wsX1_startChunk := goodIn_r _ [15, 1, 16, 17, 8, 9, 10, 11, 18, 19, 20, 21, 22, 23, 24, 25, 26, 27, 28, 29, 30, 31, 32, 33, 34, 35, 36] (by decide +kernel) (by decide +kernel)
set_option maxRecDepth 20000 in
theorem gX1_restart_X1_startChunk : GoodIn wsX1_restart (wsV RX1 61 RX1 yX1_startChunk wsX1_startChunk) := goodIn_app (goodIn_of _ (by decide +kernel)) ggX1_restart_X1_startChunk
theorem dX1_restart_0 : decode cX1_restart 0 = .ok (.aload_n 3, 1) := by decide +kernel
theorem dX1_restart_1 : decode cX1_restart 1 = .ok (.aload_n 0, 1) := by decide +kernel
theorem dX1_restart_2 : decode cX1_restart 2 = .ok (.getfield 18, 3) := by decide +kernel
theorem dX1_restart_5 : decode cX1_restart 5 = .ok (.invokestatic 38, 3) := by decide +kernel
theorem dX1_restart_8 : decode cX1_restart 8 = .ok (.aload_n 0, 1) := by decide +kernel
theorem dX1_restart_9 : decode cX1_restart 9 = .ok (.iload_n 1, 1) := by decide +kernel
theorem dX1_restart_10 : decode cX1_restart 10 = .ok (.putfield 42, 3) := by decide +kernel
theorem dX1_restart_13 : decode cX1_restart 13 = .ok (.aload_n 0, 1) := by decide +kernel
theorem dX1_restart_14 : decode cX1_restart 14 = .ok (.iload_n 2, 1) := by decide +kernel
theorem dX1_restart_15 : decode cX1_restart 15 = .ok (.putfield 46, 3) := by decide +kernel
theorem dX1_restart_18 : decode cX1_restart 18 = .ok (.aload_n 0, 1) := by decide +kernel
theorem dX1_restart_19 : decode cX1_restart 19 = .ok (.iload 4, 2) := by decide +kernel
theorem dX1_restart_21 : decode cX1_restart 21 = .ok (.putfield 49, 3) := by decide +kernel
theorem dX1_restart_24 : decode cX1_restart 24 = .ok (.aload_n 0, 1) := by decide +kernel
theorem dX1_restart_25 : decode cX1_restart 25 = .ok (.iconst 0, 1) := by decide +kernel
theorem dX1_restart_26 : decode cX1_restart 26 = .ok (.putfield 52, 3) := by decide +kernel
theorem dX1_restart_29 : decode cX1_restart 29 = .ok (.aload_n 0, 1) := by decide +kernel
theorem dX1_restart_30 : decode cX1_restart 30 = .ok (.iconst 0, 1) := by decide +kernel
theorem dX1_restart_31 : decode cX1_restart 31 = .ok (.putfield 55, 3) := by decide +kernel
theorem dX1_restart_34 : decode cX1_restart 34 = .ok (.aload_n 0, 1) := by decide +kernel
theorem dX1_restart_35 : decode cX1_restart 35 = .ok (.iconst 0, 1) := by decide +kernel
theorem dX1_restart_36 : decode cX1_restart 36 = .ok (.putfield 58, 3) := by decide +kernel
theorem dX1_restart_39 : decode cX1_restart 39 = .ok (.aload_n 0, 1) := by decide +kernel
theorem dX1_restart_40 : decode cX1_restart 40 = .ok (.invokevirtual 61, 3) := by decide +kernel
theorem dX1_restart_43 : decode cX1_restart 43 = .ok (.return_, 1) := by decide +kernel
set_option maxRecDepth 20000 in
theorem ggX1_becomeAs_X1_copyWords : GoodIn wsX1_becomeAs wsX1_copyWords := goodIn_r _ [16] (by decide +kernel) (by decide +kernel)
set_option maxRecDepth 20000 in
theorem gX1_becomeAs_X1_copyWords : GoodIn wsX1_becomeAs (va_wsS RX1 38 yX1_copyWords wsX1_copyWords) := goodIn_app (goodIn_of _ (by decide +kernel)) ggX1_becomeAs_X1_copyWords
theorem dX1_becomeAs_0 : decode cX1_becomeAs 0 = .ok (.aload_n 1, 1) := by decide +kernel
theorem dX1_becomeAs_1 : decode cX1_becomeAs 1 = .ok (.getfield 18, 3) := by decide +kernel
theorem dX1_becomeAs_4 : decode cX1_becomeAs 4 = .ok (.aload_n 0, 1) := by decide +kernel
theorem dX1_becomeAs_5 : decode cX1_becomeAs 5 = .ok (.getfield 18, 3) := by decide +kernel
theorem dX1_becomeAs_8 : decode cX1_becomeAs 8 = .ok (.invokestatic 38, 3) := by decide +kernel
theorem dX1_becomeAs_11 : decode cX1_becomeAs 11 = .ok (.aload_n 1, 1) := by decide +kernel
theorem dX1_becomeAs_12 : decode cX1_becomeAs 12 = .ok (.getfield 22, 3) := by decide +kernel
theorem dX1_becomeAs_15 : decode cX1_becomeAs 15 = .ok (.aload_n 0, 1) := by decide +kernel
theorem dX1_becomeAs_16 : decode cX1_becomeAs 16 = .ok (.getfield 22, 3) := by decide +kernel
theorem dX1_becomeAs_19 : decode cX1_becomeAs 19 = .ok (.invokestatic 38, 3) := by decide +kernel
theorem dX1_becomeAs_22 : decode cX1_becomeAs 22 = .ok (.aload_n 1, 1) := by decide +kernel
theorem dX1_becomeAs_23 : decode cX1_becomeAs 23 = .ok (.getfield 25, 3) := by decide +kernel
theorem dX1_becomeAs_26 : decode cX1_becomeAs 26 = .ok (.aload_n 0, 1) := by decide +kernel
theorem dX1_becomeAs_27 : decode cX1_becomeAs 27 = .ok (.getfield 25, 3) := by decide +kernel
theorem dX1_becomeAs_30 : decode cX1_becomeAs 30 = .ok (.invokestatic 38, 3) := by decide +kernel
theorem dX1_becomeAs_33 : decode cX1_becomeAs 33 = .ok (.aload_n 1, 1) := by decide +kernel
theorem dX1_becomeAs_34 : decode cX1_becomeAs 34 = .ok (.getfield 28, 3) := by decide +kernel
theorem dX1_becomeAs_37 : decode cX1_becomeAs 37 = .ok (.aload_n 0, 1) := by decide +kernel
theorem dX1_becomeAs_38 : decode cX1_becomeAs 38 = .ok (.getfield 28, 3) := by decide +kernel
theorem dX1_becomeAs_41 : decode cX1_becomeAs 41 = .ok (.invokestatic 38, 3) := by decide +kernel
theorem dX1_becomeAs_44 : decode cX1_becomeAs 44 = .ok (.aload_n 0, 1) := by decide +kernel
theorem dX1_becomeAs_45 : decode cX1_becomeAs 45 = .ok (.aload_n 1, 1) := by decide +kernel
theorem dX1_becomeAs_46 : decode cX1_becomeAs 46 = .ok (.getfield 42, 3) := by decide +kernel
theorem dX1_becomeAs_49 : decode cX1_becomeAs 49 = .ok (.putfield 42, 3) := by decide +kernel
theorem dX1_becomeAs_52 : decode cX1_becomeAs 52 = .ok (.aload_n 0, 1) := by decide +kernel
theorem dX1_becomeAs_53 : decode cX1_becomeAs 53 = .ok (.aload_n 1, 1) := by decide +kernel
theorem dX1_becomeAs_54 : decode cX1_becomeAs 54 = .ok (.getfield 46, 3) := by decide +kernel
theorem dX1_becomeAs_57 : decode cX1_becomeAs 57 = .ok (.putfield 46, 3) := by decide +kernel
theorem dX1_becomeAs_60 : decode cX1_becomeAs 60 = .ok (.aload_n 0, 1) := by decide +kernel
theorem dX1_becomeAs_61 : decode cX1_becomeAs 61 = .ok (.aload_n 1, 1) := by decide +kernel
theorem dX1_becomeAs_62 : decode cX1_becomeAs 62 = .ok (.getfield 49, 3) := by decide +kernel
theorem dX1_becomeAs_65 : decode cX1_becomeAs 65 = .ok (.putfield 49, 3) := by decide +kernel
theorem dX1_becomeAs_68 : decode cX1_becomeAs 68 = .ok (.aload_n 0, 1) := by decide +kernel
theorem dX1_becomeAs_69 : decode cX1_becomeAs 69 = .ok (.aload_n 1, 1) := by decide +kernel
theorem dX1_becomeAs_70 : decode cX1_becomeAs 70 = .ok (.getfield 52, 3) := by decide +kernel
theorem dX1_becomeAs_73 : decode cX1_becomeAs 73 = .ok (.putfield 52, 3) := by decide +kernel
theorem dX1_becomeAs_76 : decode cX1_becomeAs 76 = .ok (.aload_n 0, 1) := by decide +kernel
theorem dX1_becomeAs_77 : decode cX1_becomeAs 77 = .ok (.aload_n 1, 1) := by decide +kernel
theorem dX1_becomeAs_78 : decode cX1_becomeAs 78 = .ok (.getfield 55, 3) := by decide +kernel
theorem dX1_becomeAs_81 : decode cX1_becomeAs 81 = .ok (.putfield 55, 3) := by decide +kernel
theorem dX1_becomeAs_84 : decode cX1_becomeAs 84 = .ok (.aload_n 0, 1) := by decide +kernel
theorem dX1_becomeAs_85 : decode cX1_becomeAs 85 = .ok (.aload_n 1, 1) := by decide +kernel
theorem dX1_becomeAs_86 : decode cX1_becomeAs 86 = .ok (.getfield 58, 3) := by decide +kernel
theorem dX1_becomeAs_89 : decode cX1_becomeAs 89 = .ok (.putfield 58, 3) := by decide +kernel
theorem dX1_becomeAs_92 : decode cX1_becomeAs 92 = .ok (.aload_n 0, 1) := by decide +kernel
theorem dX1_becomeAs_93 : decode cX1_becomeAs 93 = .ok (.aload_n 1, 1) := by decide +kernel
theorem dX1_becomeAs_94 : decode cX1_becomeAs 94 = .ok (.getfield 64, 3) := by decide +kernel
theorem dX1_becomeAs_97 : decode cX1_becomeAs 97 = .ok (.putfield 64, 3) := by decide +kernel
theorem dX1_becomeAs_100 : decode cX1_becomeAs 100 = .ok (.aload_n 0, 1) := by decide +kernel
theorem dX1_becomeAs_101 : decode cX1_becomeAs 101 = .ok (.aload_n 1, 1) := by decide +kernel
theorem dX1_becomeAs_102 : decode cX1_becomeAs 102 = .ok (.getfield 67, 3) := by decide +kernel
theorem dX1_becomeAs_105 : decode cX1_becomeAs 105 = .ok (.putfield 67, 3) := by decide +kernel
theorem dX1_becomeAs_108 : decode cX1_becomeAs 108 = .ok (.return_, 1) := by decide +kernel
set_option maxRecDepth 20000 in
theorem ggX1_absorb_X0_byteAt : GoodIn wsX1_absorb wsX0_byteAt := goodIn_r _ [5, 6, 7, 88, 89] (by decide +kernel) (by decide +kernel)
set_option maxRecDepth 20000 in
theorem gX1_absorb_X0_byteAt : GoodIn wsX1_absorb (wsV RX1 70 RX0 yX0_byteAt wsX0_byteAt) := goodIn_app (goodIn_of _ (by decide +kernel)) ggX1_absorb_X0_byteAt
set_option maxRecDepth 20000 in
theorem ggX1_absorb_X1_absorbByte : GoodIn wsX1_absorb wsX1_absorbByte := goodIn_r _ [12, 13, 14, 15, 16, 17, 18, 19, 11, 20, 21, 22, 23, 24, 25, 26, 27, 28, 29, 30, 31, 32, 33, 34, 35, 36, 37, 38, 39, 40, 41, 42, 43, 44, 45, 46, 47, 48, 49, 50, 51, 52, 53, 54, 55, 56, 57, 58, 59, 60, 61, 62, 63, 64, 65, 66, 67, 68, 69, 70, 71, 72, 73, 74, 75, 76, 77, 78, 79, 80, 81, 82, 83, 84, 85, 86, 87, 90, 91, 92, 93, 94, 95, 96, 97, 98, 99, 100, 101, 102, 103, 104, 105, 106, 107, 108, 109, 110] (by decide +kernel) (by decide +kernel)
set_option maxRecDepth 20000 in
theorem gX1_absorb_X1_absorbByte : GoodIn wsX1_absorb (wsV RX1 76 RX1 yX1_absorbByte wsX1_absorbByte) := goodIn_app (goodIn_of _ (by decide +kernel)) ggX1_absorb_X1_absorbByte
theorem dX1_absorb_0 : decode cX1_absorb 0 = .ok (.iconst 0, 1) := by decide +kernel
theorem dX1_absorb_1 : decode cX1_absorb 1 = .ok (.istore 4, 2) := by decide +kernel
theorem dX1_absorb_3 : decode cX1_absorb 3 = .ok (.iload 4, 2) := by decide +kernel
theorem dX1_absorb_5 : decode cX1_absorb 5 = .ok (.iload_n 3, 1) := by decide +kernel
theorem dX1_absorb_6 : decode cX1_absorb 6 = .ok (.if_icmp .ge 21, 3) := by decide +kernel
theorem dX1_absorb_9 : decode cX1_absorb 9 = .ok (.aload_n 0, 1) := by decide +kernel
theorem dX1_absorb_10 : decode cX1_absorb 10 = .ok (.aload_n 1, 1) := by decide +kernel
theorem dX1_absorb_11 : decode cX1_absorb 11 = .ok (.iload_n 2, 1) := by decide +kernel
theorem dX1_absorb_12 : decode cX1_absorb 12 = .ok (.iload 4, 2) := by decide +kernel
theorem dX1_absorb_14 : decode cX1_absorb 14 = .ok (.iadd, 1) := by decide +kernel
theorem dX1_absorb_15 : decode cX1_absorb 15 = .ok (.invokevirtual 70, 3) := by decide +kernel
theorem dX1_absorb_18 : decode cX1_absorb 18 = .ok (.invokevirtual 76, 3) := by decide +kernel
theorem dX1_absorb_21 : decode cX1_absorb 21 = .ok (.iinc 4 1, 3) := by decide +kernel
theorem dX1_absorb_24 : decode cX1_absorb 24 = .ok (.goto (-21), 3) := by decide +kernel
theorem dX1_absorb_27 : decode cX1_absorb 27 = .ok (.return_, 1) := by decide +kernel
set_option maxRecDepth 20000 in
theorem ggX1_absorbByte_X1_closeChunk : GoodIn wsX1_absorbByte wsX1_closeChunk := goodIn_r _ [9, 10, 11, 12, 13, 14, 15, 16, 17, 18, 8, 19, 2, 20, 3, 21, 1, 22, 23, 24, 25, 26, 27, 28, 29, 30, 31, 32, 33, 34, 35, 36, 37, 38, 39, 40, 41, 42, 43, 44, 45, 46, 47, 48, 49, 50, 51, 52, 53, 54, 55, 56, 57, 58, 59, 60, 61, 62, 63, 64, 65, 66, 67, 68, 69, 70, 71, 72, 77, 78, 79, 80, 81, 82, 83, 84, 85, 86, 87, 88, 89, 90, 91, 92, 93, 94, 95, 96, 97] (by decide +kernel) (by decide +kernel)
set_option maxRecDepth 20000 in
theorem gX1_absorbByte_X1_closeChunk : GoodIn wsX1_absorbByte (wsV RX1 80 RX1 yX1_closeChunk wsX1_closeChunk) := goodIn_app (goodIn_of _ (by decide +kernel)) ggX1_absorbByte_X1_closeChunk
set_option maxRecDepth 20000 in
theorem ggX1_absorbByte_X1_closeBlock : GoodIn wsX1_absorbByte wsX1_closeBlock := goodIn_r _ [76, 10, 20, 2, 16, 17, 18, 8, 19, 3, 21, 11, 1, 15, 22, 23, 24, 25, 26, 27, 28, 29, 30, 31, 32, 33, 34, 35, 36, 37, 38, 39, 40, 41, 42, 43, 44, 45, 46, 47, 48, 49, 50, 51, 52, 58, 59, 60, 61, 69, 70, 71, 72, 77, 78, 79, 80, 81, 82, 83, 84, 85, 86, 87, 88, 89, 90, 91, 92, 93, 94, 95, 96, 97] (by decide +kernel) (by decide +kernel)
set_option maxRecDepth 20000 in
theorem gX1_absorbByte_X1_closeBlock : GoodIn wsX1_absorbByte (wsV RX1 83 RX1 yX1_closeBlock wsX1_closeBlock) := goodIn_app (goodIn_of _ (by decide +kernel)) ggX1_absorbByte_X1_closeBlock
theorem dX1_absorbByte_0 : decode cX1_absorbByte 0 = .ok (.aload_n 0, 1) := by decide +kernel
theorem dX1_absorbByte_1 : decode cX1_absorbByte 1 = .ok (.getfield 67, 3) := by decide +kernel
theorem dX1_absorbByte_4 : decode cX1_absorbByte 4 = .ok (.bipush 64, 2) := by decide +kernel
theorem dX1_absorbByte_6 : decode cX1_absorbByte 6 = .ok (.if_icmp .ne 23, 3) := by decide +kernel
theorem dX1_absorbByte_9 : decode cX1_absorbByte 9 = .ok (.aload_n 0, 1) := by decide +kernel
theorem dX1_absorbByte_10 : decode cX1_absorbByte 10 = .ok (.getfield 64, 3) := by decide +kernel
theorem dX1_absorbByte_13 : decode cX1_absorbByte 13 = .ok (.bipush 15, 2) := by decide +kernel
theorem dX1_absorbByte_15 : decode cX1_absorbByte 15 = .ok (.if_icmp .ne 10, 3) := by decide +kernel
theorem dX1_absorbByte_18 : decode cX1_absorbByte 18 = .ok (.aload_n 0, 1) := by decide +kernel
theorem dX1_absorbByte_19 : decode cX1_absorbByte 19 = .ok (.invokevirtual 80, 3) := by decide +kernel
theorem dX1_absorbByte_22 : decode cX1_absorbByte 22 = .ok (.goto 7, 3) := by decide +kernel
theorem dX1_absorbByte_25 : decode cX1_absorbByte 25 = .ok (.aload_n 0, 1) := by decide +kernel
theorem dX1_absorbByte_26 : decode cX1_absorbByte 26 = .ok (.invokevirtual 83, 3) := by decide +kernel
theorem dX1_absorbByte_29 : decode cX1_absorbByte 29 = .ok (.aload_n 0, 1) := by decide +kernel
theorem dX1_absorbByte_30 : decode cX1_absorbByte 30 = .ok (.getfield 28, 3) := by decide +kernel
theorem dX1_absorbByte_33 : decode cX1_absorbByte 33 = .ok (.aload_n 0, 1) := by decide +kernel
theorem dX1_absorbByte_34 : decode cX1_absorbByte 34 = .ok (.getfield 67, 3) := by decide +kernel
theorem dX1_absorbByte_37 : decode cX1_absorbByte 37 = .ok (.iconst 2, 1) := by decide +kernel
theorem dX1_absorbByte_38 : decode cX1_absorbByte 38 = .ok (.ishr, 1) := by decide +kernel
theorem dX1_absorbByte_39 : decode cX1_absorbByte 39 = .ok (.dup2, 1) := by decide +kernel
theorem dX1_absorbByte_40 : decode cX1_absorbByte 40 = .ok (.iaload, 1) := by decide +kernel
theorem dX1_absorbByte_41 : decode cX1_absorbByte 41 = .ok (.iload_n 1, 1) := by decide +kernel
theorem dX1_absorbByte_42 : decode cX1_absorbByte 42 = .ok (.sipush 255, 3) := by decide +kernel
theorem dX1_absorbByte_45 : decode cX1_absorbByte 45 = .ok (.iand, 1) := by decide +kernel
theorem dX1_absorbByte_46 : decode cX1_absorbByte 46 = .ok (.bipush 8, 2) := by decide +kernel
theorem dX1_absorbByte_48 : decode cX1_absorbByte 48 = .ok (.aload_n 0, 1) := by decide +kernel
theorem dX1_absorbByte_49 : decode cX1_absorbByte 49 = .ok (.getfield 67, 3) := by decide +kernel
theorem dX1_absorbByte_52 : decode cX1_absorbByte 52 = .ok (.iconst 3, 1) := by decide +kernel
theorem dX1_absorbByte_53 : decode cX1_absorbByte 53 = .ok (.iand, 1) := by decide +kernel
theorem dX1_absorbByte_54 : decode cX1_absorbByte 54 = .ok (.imul, 1) := by decide +kernel
theorem dX1_absorbByte_55 : decode cX1_absorbByte 55 = .ok (.ishl, 1) := by decide +kernel
theorem dX1_absorbByte_56 : decode cX1_absorbByte 56 = .ok (.ior, 1) := by decide +kernel
theorem dX1_absorbByte_57 : decode cX1_absorbByte 57 = .ok (.iastore, 1) := by decide +kernel
theorem dX1_absorbByte_58 : decode cX1_absorbByte 58 = .ok (.aload_n 0, 1) := by decide +kernel
theorem dX1_absorbByte_59 : decode cX1_absorbByte 59 = .ok (.dup, 1) := by decide +kernel
theorem dX1_absorbByte_60 : decode cX1_absorbByte 60 = .ok (.getfield 67, 3) := by decide +kernel
theorem dX1_absorbByte_63 : decode cX1_absorbByte 63 = .ok (.iconst 1, 1) := by decide +kernel
theorem dX1_absorbByte_64 : decode cX1_absorbByte 64 = .ok (.iadd, 1) := by decide +kernel
theorem dX1_absorbByte_65 : decode cX1_absorbByte 65 = .ok (.putfield 67, 3) := by decide +kernel
theorem dX1_absorbByte_68 : decode cX1_absorbByte 68 = .ok (.aload_n 0, 1) := by decide +kernel
theorem dX1_absorbByte_69 : decode cX1_absorbByte 69 = .ok (.dup, 1) := by decide +kernel
theorem dX1_absorbByte_70 : decode cX1_absorbByte 70 = .ok (.getfield 52, 3) := by decide +kernel
theorem dX1_absorbByte_73 : decode cX1_absorbByte 73 = .ok (.iconst 1, 1) := by decide +kernel
theorem dX1_absorbByte_74 : decode cX1_absorbByte 74 = .ok (.iadd, 1) := by decide +kernel
theorem dX1_absorbByte_75 : decode cX1_absorbByte 75 = .ok (.putfield 52, 3) := by decide +kernel
theorem dX1_absorbByte_78 : decode cX1_absorbByte 78 = .ok (.return_, 1) := by decide +kernel
theorem dX1_inChunk_0 : decode cX1_inChunk 0 = .ok (.aload_n 0, 1) := by decide +kernel
theorem dX1_inChunk_1 : decode cX1_inChunk 1 = .ok (.getfield 64, 3) := by decide +kernel
theorem dX1_inChunk_4 : decode cX1_inChunk 4 = .ok (.bipush 64, 2) := by decide +kernel
theorem dX1_inChunk_6 : decode cX1_inChunk 6 = .ok (.imul, 1) := by decide +kernel
theorem dX1_inChunk_7 : decode cX1_inChunk 7 = .ok (.aload_n 0, 1) := by decide +kernel
theorem dX1_inChunk_8 : decode cX1_inChunk 8 = .ok (.getfield 67, 3) := by decide +kernel
theorem dX1_inChunk_11 : decode cX1_inChunk 11 = .ok (.iadd, 1) := by decide +kernel
theorem dX1_inChunk_12 : decode cX1_inChunk 12 = .ok (.ireturn, 1) := by decide +kernel
theorem dX1_stackWord_0 : decode cX1_stackWord 0 = .ok (.iload_n 1, 1) := by decide +kernel
theorem dX1_stackWord_1 : decode cX1_stackWord 1 = .ok (.ifCond .lt 21, 3) := by decide +kernel
theorem dX1_stackWord_4 : decode cX1_stackWord 4 = .ok (.iload_n 1, 1) := by decide +kernel
theorem dX1_stackWord_5 : decode cX1_stackWord 5 = .ok (.aload_n 0, 1) := by decide +kernel
theorem dX1_stackWord_6 : decode cX1_stackWord 6 = .ok (.getfield 58, 3) := by decide +kernel
theorem dX1_stackWord_9 : decode cX1_stackWord 9 = .ok (.if_icmp .ge 13, 3) := by decide +kernel
theorem dX1_stackWord_12 : decode cX1_stackWord 12 = .ok (.iload_n 2, 1) := by decide +kernel
theorem dX1_stackWord_13 : decode cX1_stackWord 13 = .ok (.ifCond .lt 9, 3) := by decide +kernel
theorem dX1_stackWord_16 : decode cX1_stackWord 16 = .ok (.iload_n 2, 1) := by decide +kernel
theorem dX1_stackWord_17 : decode cX1_stackWord 17 = .ok (.bipush 8, 2) := by decide +kernel
theorem dX1_stackWord_19 : decode cX1_stackWord 19 = .ok (.if_icmp .lt 5, 3) := by decide +kernel
theorem dX1_stackWord_22 : decode cX1_stackWord 22 = .ok (.iconst 0, 1) := by decide +kernel
theorem dX1_stackWord_23 : decode cX1_stackWord 23 = .ok (.ireturn, 1) := by decide +kernel
theorem dX1_stackWord_24 : decode cX1_stackWord 24 = .ok (.aload_n 0, 1) := by decide +kernel
theorem dX1_stackWord_25 : decode cX1_stackWord 25 = .ok (.getfield 22, 3) := by decide +kernel
theorem dX1_stackWord_28 : decode cX1_stackWord 28 = .ok (.iload_n 1, 1) := by decide +kernel
theorem dX1_stackWord_29 : decode cX1_stackWord 29 = .ok (.bipush 8, 2) := by decide +kernel
theorem dX1_stackWord_31 : decode cX1_stackWord 31 = .ok (.imul, 1) := by decide +kernel
theorem dX1_stackWord_32 : decode cX1_stackWord 32 = .ok (.iload_n 2, 1) := by decide +kernel
theorem dX1_stackWord_33 : decode cX1_stackWord 33 = .ok (.iadd, 1) := by decide +kernel
theorem dX1_stackWord_34 : decode cX1_stackWord 34 = .ok (.iaload, 1) := by decide +kernel
theorem dX1_stackWord_35 : decode cX1_stackWord 35 = .ok (.ireturn, 1) := by decide +kernel
set_option maxRecDepth 20000 in
theorem ggX1_prepareLast_X1_prepareBlock : GoodIn wsX1_prepareLast wsX1_prepareBlock := goodIn_r _ [10, 11, 2, 12, 13, 14, 15, 16, 5, 17, 18, 19, 20, 21, 22, 23, 24, 25, 26, 53, 54, 55, 56, 57, 58, 59, 60, 61, 62, 63, 64, 65, 66, 67, 68, 69, 70, 71, 72, 73] (by decide +kernel) (by decide +kernel)
set_option maxRecDepth 20000 in
theorem gX1_prepareLast_X1_prepareBlock : GoodIn wsX1_prepareLast (wsV RX1 86 RX1 yX1_prepareBlock wsX1_prepareBlock) := goodIn_app (goodIn_of _ (by decide +kernel)) ggX1_prepareLast_X1_prepareBlock
set_option maxRecDepth 20000 in
theorem ggX1_prepareLast_X2_run : GoodIn wsX1_prepareLast wsX2_run := goodIn_r _ [30, 31, 32, 22, 33, 34, 35, 20, 36, 37, 24, 25, 26, 23, 38, 39, 40, 41, 42, 43, 44, 45, 46, 47, 66, 67, 68, 69, 70, 71, 72, 73] (by decide +kernel) (by decide +kernel)
set_option maxRecDepth 20000 in
theorem gX1_prepareLast_X2_run : GoodIn wsX1_prepareLast (wsV RX1 89 RX2 yX2_run wsX2_run) := goodIn_app (goodIn_of _ (by decide +kernel)) ggX1_prepareLast_X2_run
set_option maxRecDepth 20000 in
theorem ggX1_prepareLast_X2_joinBehind : GoodIn wsX1_prepareLast wsX2_joinBehind := goodIn_r _ [51, 23, 32, 52, 18, 19, 20, 21, 22, 24, 25, 26, 66, 67, 68, 69, 70, 71, 72, 73] (by decide +kernel) (by decide +kernel)
set_option maxRecDepth 20000 in
theorem gX1_prepareLast_X2_joinBehind : GoodIn wsX1_prepareLast (wsV RX1 92 RX2 yX2_joinBehind wsX2_joinBehind) := goodIn_app (goodIn_of _ (by decide +kernel)) ggX1_prepareLast_X2_joinBehind
theorem dX1_prepareLast_0 : decode cX1_prepareLast 0 = .ok (.aload_n 0, 1) := by decide +kernel
theorem dX1_prepareLast_1 : decode cX1_prepareLast 1 = .ok (.iconst 2, 1) := by decide +kernel
theorem dX1_prepareLast_2 : decode cX1_prepareLast 2 = .ok (.invokevirtual 86, 3) := by decide +kernel
theorem dX1_prepareLast_5 : decode cX1_prepareLast 5 = .ok (.aload_n 0, 1) := by decide +kernel
theorem dX1_prepareLast_6 : decode cX1_prepareLast 6 = .ok (.getfield 58, 3) := by decide +kernel
theorem dX1_prepareLast_9 : decode cX1_prepareLast 9 = .ok (.iconst 1, 1) := by decide +kernel
theorem dX1_prepareLast_10 : decode cX1_prepareLast 10 = .ok (.isub, 1) := by decide +kernel
theorem dX1_prepareLast_11 : decode cX1_prepareLast 11 = .ok (.istore_n 1, 1) := by decide +kernel
theorem dX1_prepareLast_12 : decode cX1_prepareLast 12 = .ok (.iload_n 1, 1) := by decide +kernel
theorem dX1_prepareLast_13 : decode cX1_prepareLast 13 = .ok (.ifCond .lt 39, 3) := by decide +kernel
theorem dX1_prepareLast_16 : decode cX1_prepareLast 16 = .ok (.aload_n 0, 1) := by decide +kernel
theorem dX1_prepareLast_17 : decode cX1_prepareLast 17 = .ok (.getfield 14, 3) := by decide +kernel
theorem dX1_prepareLast_20 : decode cX1_prepareLast 20 = .ok (.invokevirtual 89, 3) := by decide +kernel
theorem dX1_prepareLast_23 : decode cX1_prepareLast 23 = .ok (.aload_n 0, 1) := by decide +kernel
theorem dX1_prepareLast_24 : decode cX1_prepareLast 24 = .ok (.getfield 14, 3) := by decide +kernel
theorem dX1_prepareLast_27 : decode cX1_prepareLast 27 = .ok (.aload_n 0, 1) := by decide +kernel
theorem dX1_prepareLast_28 : decode cX1_prepareLast 28 = .ok (.getfield 22, 3) := by decide +kernel
theorem dX1_prepareLast_31 : decode cX1_prepareLast 31 = .ok (.iload_n 1, 1) := by decide +kernel
theorem dX1_prepareLast_32 : decode cX1_prepareLast 32 = .ok (.bipush 8, 2) := by decide +kernel
theorem dX1_prepareLast_34 : decode cX1_prepareLast 34 = .ok (.imul, 1) := by decide +kernel
theorem dX1_prepareLast_35 : decode cX1_prepareLast 35 = .ok (.aload_n 0, 1) := by decide +kernel
theorem dX1_prepareLast_36 : decode cX1_prepareLast 36 = .ok (.getfield 18, 3) := by decide +kernel
theorem dX1_prepareLast_39 : decode cX1_prepareLast 39 = .ok (.aload_n 0, 1) := by decide +kernel
theorem dX1_prepareLast_40 : decode cX1_prepareLast 40 = .ok (.getfield 46, 3) := by decide +kernel
theorem dX1_prepareLast_43 : decode cX1_prepareLast 43 = .ok (.invokevirtual 92, 3) := by decide +kernel
theorem dX1_prepareLast_46 : decode cX1_prepareLast 46 = .ok (.iinc 1 (-1), 3) := by decide +kernel
theorem dX1_prepareLast_49 : decode cX1_prepareLast 49 = .ok (.goto (-37), 3) := by decide +kernel
theorem dX1_prepareLast_52 : decode cX1_prepareLast 52 = .ok (.return_, 1) := by decide +kernel
set_option maxRecDepth 20000 in
theorem ggX1_prepareBlock_X2_prepare : GoodIn wsX1_prepareBlock wsX2_prepare := goodIn_r _ [13, 14, 15, 16, 17, 18, 32, 33, 34, 35, 36, 37, 38, 39] (by decide +kernel) (by decide +kernel)
set_option maxRecDepth 20000 in
theorem gX1_prepareBlock_X2_prepare : GoodIn wsX1_prepareBlock (wsV RX1 96 RX2 yX2_prepare wsX2_prepare) := goodIn_app (goodIn_of _ (by decide +kernel)) ggX1_prepareBlock_X2_prepare
theorem dX1_prepareBlock_0 : decode cX1_prepareBlock 0 = .ok (.aload_n 0, 1) := by decide +kernel
theorem dX1_prepareBlock_1 : decode cX1_prepareBlock 1 = .ok (.getfield 64, 3) := by decide +kernel
theorem dX1_prepareBlock_4 : decode cX1_prepareBlock 4 = .ok (.ifCond .ne 7, 3) := by decide +kernel
theorem dX1_prepareBlock_7 : decode cX1_prepareBlock 7 = .ok (.iconst 1, 1) := by decide +kernel
theorem dX1_prepareBlock_8 : decode cX1_prepareBlock 8 = .ok (.goto 4, 3) := by decide +kernel
theorem dX1_prepareBlock_11 : decode cX1_prepareBlock 11 = .ok (.iconst 0, 1) := by decide +kernel
theorem dX1_prepareBlock_12 : decode cX1_prepareBlock 12 = .ok (.istore_n 2, 1) := by decide +kernel
theorem dX1_prepareBlock_13 : decode cX1_prepareBlock 13 = .ok (.aload_n 0, 1) := by decide +kernel
theorem dX1_prepareBlock_14 : decode cX1_prepareBlock 14 = .ok (.getfield 14, 3) := by decide +kernel
theorem dX1_prepareBlock_17 : decode cX1_prepareBlock 17 = .ok (.aload_n 0, 1) := by decide +kernel
theorem dX1_prepareBlock_18 : decode cX1_prepareBlock 18 = .ok (.getfield 25, 3) := by decide +kernel
theorem dX1_prepareBlock_21 : decode cX1_prepareBlock 21 = .ok (.aload_n 0, 1) := by decide +kernel
theorem dX1_prepareBlock_22 : decode cX1_prepareBlock 22 = .ok (.getfield 28, 3) := by decide +kernel
theorem dX1_prepareBlock_25 : decode cX1_prepareBlock 25 = .ok (.aload_n 0, 1) := by decide +kernel
theorem dX1_prepareBlock_26 : decode cX1_prepareBlock 26 = .ok (.getfield 49, 3) := by decide +kernel
theorem dX1_prepareBlock_29 : decode cX1_prepareBlock 29 = .ok (.aload_n 0, 1) := by decide +kernel
theorem dX1_prepareBlock_30 : decode cX1_prepareBlock 30 = .ok (.getfield 55, 3) := by decide +kernel
theorem dX1_prepareBlock_33 : decode cX1_prepareBlock 33 = .ok (.iadd, 1) := by decide +kernel
theorem dX1_prepareBlock_34 : decode cX1_prepareBlock 34 = .ok (.i2l, 1) := by decide +kernel
theorem dX1_prepareBlock_35 : decode cX1_prepareBlock 35 = .ok (.aload_n 0, 1) := by decide +kernel
theorem dX1_prepareBlock_36 : decode cX1_prepareBlock 36 = .ok (.getfield 67, 3) := by decide +kernel
theorem dX1_prepareBlock_39 : decode cX1_prepareBlock 39 = .ok (.aload_n 0, 1) := by decide +kernel
theorem dX1_prepareBlock_40 : decode cX1_prepareBlock 40 = .ok (.getfield 46, 3) := by decide +kernel
theorem dX1_prepareBlock_43 : decode cX1_prepareBlock 43 = .ok (.iload_n 2, 1) := by decide +kernel
theorem dX1_prepareBlock_44 : decode cX1_prepareBlock 44 = .ok (.iadd, 1) := by decide +kernel
theorem dX1_prepareBlock_45 : decode cX1_prepareBlock 45 = .ok (.iload_n 1, 1) := by decide +kernel
theorem dX1_prepareBlock_46 : decode cX1_prepareBlock 46 = .ok (.iadd, 1) := by decide +kernel
theorem dX1_prepareBlock_47 : decode cX1_prepareBlock 47 = .ok (.invokevirtual 96, 3) := by decide +kernel
theorem dX1_prepareBlock_50 : decode cX1_prepareBlock 50 = .ok (.return_, 1) := by decide +kernel
set_option maxRecDepth 20000 in
theorem ggX1_closeBlock_X1_prepareBlock : GoodIn wsX1_closeBlock wsX1_prepareBlock := goodIn_r _ [8, 3, 1, 2, 9, 10, 11, 12, 13, 14, 15, 16, 17, 18, 19, 20, 21, 22, 23, 53, 54, 55, 56, 57, 58, 59, 60, 61, 62, 63, 64, 65, 66, 67, 68, 69, 70, 71, 72, 73] (by decide +kernel) (by decide +kernel)
set_option maxRecDepth 20000 in
theorem gX1_closeBlock_X1_prepareBlock : GoodIn wsX1_closeBlock (wsV RX1 86 RX1 yX1_prepareBlock wsX1_prepareBlock) := goodIn_app (goodIn_of _ (by decide +kernel)) ggX1_closeBlock_X1_prepareBlock
set_option maxRecDepth 20000 in
theorem ggX1_closeBlock_X2_run : GoodIn wsX1_closeBlock wsX2_run := goodIn_r _ [27, 28, 29, 19, 30, 31, 32, 17, 33, 34, 21, 22, 23, 20, 35, 36, 37, 38, 39, 40, 41, 42, 43, 44, 66, 67, 68, 69, 70, 71, 72, 73] (by decide +kernel) (by decide +kernel)
set_option maxRecDepth 20000 in
theorem gX1_closeBlock_X2_run : GoodIn wsX1_closeBlock (wsV RX1 89 RX2 yX2_run wsX2_run) := goodIn_app (goodIn_of _ (by decide +kernel)) ggX1_closeBlock_X2_run
set_option maxRecDepth 20000 in
theorem ggX1_closeBlock_X2_writeChain : GoodIn wsX1_closeBlock wsX2_writeChain := goodIn_r _ [48, 29, 66, 67, 68, 69, 70, 71, 72, 73] (by decide +kernel) (by decide +kernel)
set_option maxRecDepth 20000 in
theorem gX1_closeBlock_X2_writeChain : GoodIn wsX1_closeBlock (wsV RX1 100 RX2 yX2_writeChain wsX2_writeChain) := goodIn_app (goodIn_of _ (by decide +kernel)) ggX1_closeBlock_X2_writeChain
set_option maxRecDepth 20000 in
theorem ggX1_closeBlock_X1_startBlock : GoodIn wsX1_closeBlock wsX1_startBlock := goodIn_r _ [52, 9, 12, 53, 54, 55, 56, 57, 58, 59, 60, 61, 62, 63, 64, 65] (by decide +kernel) (by decide +kernel)
set_option maxRecDepth 20000 in
theorem gX1_closeBlock_X1_startBlock : GoodIn wsX1_closeBlock (wsV RX1 104 RX1 yX1_startBlock wsX1_startBlock) := goodIn_app (goodIn_of _ (by decide +kernel)) ggX1_closeBlock_X1_startBlock
theorem dX1_closeBlock_0 : decode cX1_closeBlock 0 = .ok (.aload_n 0, 1) := by decide +kernel
theorem dX1_closeBlock_1 : decode cX1_closeBlock 1 = .ok (.iconst 0, 1) := by decide +kernel
theorem dX1_closeBlock_2 : decode cX1_closeBlock 2 = .ok (.invokevirtual 86, 3) := by decide +kernel
theorem dX1_closeBlock_5 : decode cX1_closeBlock 5 = .ok (.aload_n 0, 1) := by decide +kernel
theorem dX1_closeBlock_6 : decode cX1_closeBlock 6 = .ok (.getfield 14, 3) := by decide +kernel
theorem dX1_closeBlock_9 : decode cX1_closeBlock 9 = .ok (.invokevirtual 89, 3) := by decide +kernel
theorem dX1_closeBlock_12 : decode cX1_closeBlock 12 = .ok (.aload_n 0, 1) := by decide +kernel
theorem dX1_closeBlock_13 : decode cX1_closeBlock 13 = .ok (.getfield 14, 3) := by decide +kernel
theorem dX1_closeBlock_16 : decode cX1_closeBlock 16 = .ok (.aload_n 0, 1) := by decide +kernel
theorem dX1_closeBlock_17 : decode cX1_closeBlock 17 = .ok (.getfield 25, 3) := by decide +kernel
theorem dX1_closeBlock_20 : decode cX1_closeBlock 20 = .ok (.iconst 0, 1) := by decide +kernel
theorem dX1_closeBlock_21 : decode cX1_closeBlock 21 = .ok (.invokevirtual 100, 3) := by decide +kernel
theorem dX1_closeBlock_24 : decode cX1_closeBlock 24 = .ok (.aload_n 0, 1) := by decide +kernel
theorem dX1_closeBlock_25 : decode cX1_closeBlock 25 = .ok (.dup, 1) := by decide +kernel
theorem dX1_closeBlock_26 : decode cX1_closeBlock 26 = .ok (.getfield 64, 3) := by decide +kernel
theorem dX1_closeBlock_29 : decode cX1_closeBlock 29 = .ok (.iconst 1, 1) := by decide +kernel
theorem dX1_closeBlock_30 : decode cX1_closeBlock 30 = .ok (.iadd, 1) := by decide +kernel
theorem dX1_closeBlock_31 : decode cX1_closeBlock 31 = .ok (.putfield 64, 3) := by decide +kernel
theorem dX1_closeBlock_34 : decode cX1_closeBlock 34 = .ok (.aload_n 0, 1) := by decide +kernel
theorem dX1_closeBlock_35 : decode cX1_closeBlock 35 = .ok (.invokevirtual 104, 3) := by decide +kernel
theorem dX1_closeBlock_38 : decode cX1_closeBlock 38 = .ok (.return_, 1) := by decide +kernel
set_option maxRecDepth 20000 in
theorem ggX1_closeChunk_X1_prepareBlock : GoodIn wsX1_closeChunk wsX1_prepareBlock := goodIn_r _ [11, 12, 1, 13, 14, 15, 2, 16, 6, 17, 18, 19, 20, 21, 22, 23, 24, 25, 26, 68, 69, 70, 71, 72, 73, 74, 75, 76, 77, 78, 79, 80, 81, 82, 83, 84, 85, 86, 87, 88] (by decide +kernel) (by decide +kernel)
set_option maxRecDepth 20000 in
theorem gX1_closeChunk_X1_prepareBlock : GoodIn wsX1_closeChunk (wsV RX1 86 RX1 yX1_prepareBlock wsX1_prepareBlock) := goodIn_app (goodIn_of _ (by decide +kernel)) ggX1_closeChunk_X1_prepareBlock
set_option maxRecDepth 20000 in
theorem ggX1_closeChunk_X2_run : GoodIn wsX1_closeChunk wsX2_run := goodIn_r _ [30, 31, 32, 22, 33, 34, 35, 20, 36, 37, 24, 25, 26, 23, 38, 39, 40, 41, 42, 43, 44, 45, 46, 47, 81, 82, 83, 84, 85, 86, 87, 88] (by decide +kernel) (by decide +kernel)
set_option maxRecDepth 20000 in
theorem gX1_closeChunk_X2_run : GoodIn wsX1_closeChunk (wsV RX1 89 RX2 yX2_run wsX2_run) := goodIn_app (goodIn_of _ (by decide +kernel)) ggX1_closeChunk_X2_run
set_option maxRecDepth 20000 in
theorem ggX1_closeChunk_X2_joinBehind : GoodIn wsX1_closeChunk wsX2_joinBehind := goodIn_r _ [51, 23, 32, 52, 18, 19, 20, 21, 22, 24, 25, 26, 81, 82, 83, 84, 85, 86, 87, 88] (by decide +kernel) (by decide +kernel)
set_option maxRecDepth 20000 in
theorem gX1_closeChunk_X2_joinBehind : GoodIn wsX1_closeChunk (wsV RX1 92 RX2 yX2_joinBehind wsX2_joinBehind) := goodIn_app (goodIn_of _ (by decide +kernel)) ggX1_closeChunk_X2_joinBehind
set_option maxRecDepth 20000 in
theorem ggX1_closeChunk_X2_writeChain : GoodIn wsX1_closeChunk wsX2_writeChain := goodIn_r _ [56, 32, 81, 82, 83, 84, 85, 86, 87, 88] (by decide +kernel) (by decide +kernel)
set_option maxRecDepth 20000 in
theorem gX1_closeChunk_X2_writeChain : GoodIn wsX1_closeChunk (wsV RX1 100 RX2 yX2_writeChain wsX2_writeChain) := goodIn_app (goodIn_of _ (by decide +kernel)) ggX1_closeChunk_X2_writeChain
set_option maxRecDepth 20000 in
theorem ggX1_closeChunk_X1_startChunk : GoodIn wsX1_closeChunk wsX1_startChunk := goodIn_r _ [60, 5, 13, 12, 61, 62, 10, 63, 64, 65, 66, 67, 14, 16, 68, 69, 70, 71, 72, 73, 74, 75, 76, 77, 78, 79, 80] (by decide +kernel) (by decide +kernel)
set_option maxRecDepth 20000 in
theorem gX1_closeChunk_X1_startChunk : GoodIn wsX1_closeChunk (wsV RX1 61 RX1 yX1_startChunk wsX1_startChunk) := goodIn_app (goodIn_of _ (by decide +kernel)) ggX1_closeChunk_X1_startChunk
theorem dX1_closeChunk_0 : decode cX1_closeChunk 0 = .ok (.aload_n 0, 1) := by decide +kernel
theorem dX1_closeChunk_1 : decode cX1_closeChunk 1 = .ok (.iconst 2, 1) := by decide +kernel
theorem dX1_closeChunk_2 : decode cX1_closeChunk 2 = .ok (.invokevirtual 86, 3) := by decide +kernel
theorem dX1_closeChunk_5 : decode cX1_closeChunk 5 = .ok (.aload_n 0, 1) := by decide +kernel
theorem dX1_closeChunk_6 : decode cX1_closeChunk 6 = .ok (.getfield 14, 3) := by decide +kernel
theorem dX1_closeChunk_9 : decode cX1_closeChunk 9 = .ok (.invokevirtual 89, 3) := by decide +kernel
theorem dX1_closeChunk_12 : decode cX1_closeChunk 12 = .ok (.aload_n 0, 1) := by decide +kernel
theorem dX1_closeChunk_13 : decode cX1_closeChunk 13 = .ok (.dup, 1) := by decide +kernel
theorem dX1_closeChunk_14 : decode cX1_closeChunk 14 = .ok (.getfield 55, 3) := by decide +kernel
theorem dX1_closeChunk_17 : decode cX1_closeChunk 17 = .ok (.iconst 1, 1) := by decide +kernel
theorem dX1_closeChunk_18 : decode cX1_closeChunk 18 = .ok (.iadd, 1) := by decide +kernel
theorem dX1_closeChunk_19 : decode cX1_closeChunk 19 = .ok (.putfield 55, 3) := by decide +kernel
theorem dX1_closeChunk_22 : decode cX1_closeChunk 22 = .ok (.aload_n 0, 1) := by decide +kernel
theorem dX1_closeChunk_23 : decode cX1_closeChunk 23 = .ok (.getfield 55, 3) := by decide +kernel
theorem dX1_closeChunk_26 : decode cX1_closeChunk 26 = .ok (.istore_n 1, 1) := by decide +kernel
theorem dX1_closeChunk_27 : decode cX1_closeChunk 27 = .ok (.aload_n 0, 1) := by decide +kernel
theorem dX1_closeChunk_28 : decode cX1_closeChunk 28 = .ok (.getfield 58, 3) := by decide +kernel
theorem dX1_closeChunk_31 : decode cX1_closeChunk 31 = .ok (.ifCond .le 59, 3) := by decide +kernel
theorem dX1_closeChunk_34 : decode cX1_closeChunk 34 = .ok (.iload_n 1, 1) := by decide +kernel
theorem dX1_closeChunk_35 : decode cX1_closeChunk 35 = .ok (.iconst 1, 1) := by decide +kernel
theorem dX1_closeChunk_36 : decode cX1_closeChunk 36 = .ok (.iand, 1) := by decide +kernel
theorem dX1_closeChunk_37 : decode cX1_closeChunk 37 = .ok (.ifCond .ne 53, 3) := by decide +kernel
theorem dX1_closeChunk_40 : decode cX1_closeChunk 40 = .ok (.aload_n 0, 1) := by decide +kernel
theorem dX1_closeChunk_41 : decode cX1_closeChunk 41 = .ok (.dup, 1) := by decide +kernel
theorem dX1_closeChunk_42 : decode cX1_closeChunk 42 = .ok (.getfield 58, 3) := by decide +kernel
theorem dX1_closeChunk_45 : decode cX1_closeChunk 45 = .ok (.iconst 1, 1) := by decide +kernel
theorem dX1_closeChunk_46 : decode cX1_closeChunk 46 = .ok (.isub, 1) := by decide +kernel
theorem dX1_closeChunk_47 : decode cX1_closeChunk 47 = .ok (.putfield 58, 3) := by decide +kernel
theorem dX1_closeChunk_50 : decode cX1_closeChunk 50 = .ok (.aload_n 0, 1) := by decide +kernel
theorem dX1_closeChunk_51 : decode cX1_closeChunk 51 = .ok (.getfield 14, 3) := by decide +kernel
theorem dX1_closeChunk_54 : decode cX1_closeChunk 54 = .ok (.aload_n 0, 1) := by decide +kernel
theorem dX1_closeChunk_55 : decode cX1_closeChunk 55 = .ok (.getfield 22, 3) := by decide +kernel
theorem dX1_closeChunk_58 : decode cX1_closeChunk 58 = .ok (.aload_n 0, 1) := by decide +kernel
theorem dX1_closeChunk_59 : decode cX1_closeChunk 59 = .ok (.getfield 58, 3) := by decide +kernel
theorem dX1_closeChunk_62 : decode cX1_closeChunk 62 = .ok (.bipush 8, 2) := by decide +kernel
theorem dX1_closeChunk_64 : decode cX1_closeChunk 64 = .ok (.imul, 1) := by decide +kernel
theorem dX1_closeChunk_65 : decode cX1_closeChunk 65 = .ok (.aload_n 0, 1) := by decide +kernel
theorem dX1_closeChunk_66 : decode cX1_closeChunk 66 = .ok (.getfield 18, 3) := by decide +kernel
theorem dX1_closeChunk_69 : decode cX1_closeChunk 69 = .ok (.aload_n 0, 1) := by decide +kernel
theorem dX1_closeChunk_70 : decode cX1_closeChunk 70 = .ok (.getfield 46, 3) := by decide +kernel
theorem dX1_closeChunk_73 : decode cX1_closeChunk 73 = .ok (.invokevirtual 92, 3) := by decide +kernel
theorem dX1_closeChunk_76 : decode cX1_closeChunk 76 = .ok (.aload_n 0, 1) := by decide +kernel
theorem dX1_closeChunk_77 : decode cX1_closeChunk 77 = .ok (.getfield 14, 3) := by decide +kernel
theorem dX1_closeChunk_80 : decode cX1_closeChunk 80 = .ok (.invokevirtual 89, 3) := by decide +kernel
theorem dX1_closeChunk_83 : decode cX1_closeChunk 83 = .ok (.iload_n 1, 1) := by decide +kernel
theorem dX1_closeChunk_84 : decode cX1_closeChunk 84 = .ok (.iconst 1, 1) := by decide +kernel
theorem dX1_closeChunk_85 : decode cX1_closeChunk 85 = .ok (.ishr, 1) := by decide +kernel
theorem dX1_closeChunk_86 : decode cX1_closeChunk 86 = .ok (.istore_n 1, 1) := by decide +kernel
theorem dX1_closeChunk_87 : decode cX1_closeChunk 87 = .ok (.goto (-60), 3) := by decide +kernel
theorem dX1_closeChunk_90 : decode cX1_closeChunk 90 = .ok (.aload_n 0, 1) := by decide +kernel
theorem dX1_closeChunk_91 : decode cX1_closeChunk 91 = .ok (.getfield 58, 3) := by decide +kernel
theorem dX1_closeChunk_94 : decode cX1_closeChunk 94 = .ok (.iconst 5, 1) := by decide +kernel
theorem dX1_closeChunk_95 : decode cX1_closeChunk 95 = .ok (.if_icmp .ge 31, 3) := by decide +kernel
theorem dX1_closeChunk_98 : decode cX1_closeChunk 98 = .ok (.aload_n 0, 1) := by decide +kernel
theorem dX1_closeChunk_99 : decode cX1_closeChunk 99 = .ok (.getfield 14, 3) := by decide +kernel
theorem dX1_closeChunk_102 : decode cX1_closeChunk 102 = .ok (.aload_n 0, 1) := by decide +kernel
theorem dX1_closeChunk_103 : decode cX1_closeChunk 103 = .ok (.getfield 22, 3) := by decide +kernel
theorem dX1_closeChunk_106 : decode cX1_closeChunk 106 = .ok (.aload_n 0, 1) := by decide +kernel
theorem dX1_closeChunk_107 : decode cX1_closeChunk 107 = .ok (.getfield 58, 3) := by decide +kernel
theorem dX1_closeChunk_110 : decode cX1_closeChunk 110 = .ok (.bipush 8, 2) := by decide +kernel
theorem dX1_closeChunk_112 : decode cX1_closeChunk 112 = .ok (.imul, 1) := by decide +kernel
theorem dX1_closeChunk_113 : decode cX1_closeChunk 113 = .ok (.invokevirtual 100, 3) := by decide +kernel
theorem dX1_closeChunk_116 : decode cX1_closeChunk 116 = .ok (.aload_n 0, 1) := by decide +kernel
theorem dX1_closeChunk_117 : decode cX1_closeChunk 117 = .ok (.dup, 1) := by decide +kernel
theorem dX1_closeChunk_118 : decode cX1_closeChunk 118 = .ok (.getfield 58, 3) := by decide +kernel
theorem dX1_closeChunk_121 : decode cX1_closeChunk 121 = .ok (.iconst 1, 1) := by decide +kernel
theorem dX1_closeChunk_122 : decode cX1_closeChunk 122 = .ok (.iadd, 1) := by decide +kernel
theorem dX1_closeChunk_123 : decode cX1_closeChunk 123 = .ok (.putfield 58, 3) := by decide +kernel
theorem dX1_closeChunk_126 : decode cX1_closeChunk 126 = .ok (.aload_n 0, 1) := by decide +kernel
theorem dX1_closeChunk_127 : decode cX1_closeChunk 127 = .ok (.invokevirtual 61, 3) := by decide +kernel
theorem dX1_closeChunk_130 : decode cX1_closeChunk 130 = .ok (.return_, 1) := by decide +kernel
set_option maxRecDepth 20000 in
theorem ggX1_startChunk_X1_copyWords : GoodIn wsX1_startChunk wsX1_copyWords := goodIn_r _ [7] (by decide +kernel) (by decide +kernel)
set_option maxRecDepth 20000 in
theorem gX1_startChunk_X1_copyWords : GoodIn wsX1_startChunk (va_wsS RX1 38 yX1_copyWords wsX1_copyWords) := goodIn_app (goodIn_of _ (by decide +kernel)) ggX1_startChunk_X1_copyWords
set_option maxRecDepth 20000 in
theorem ggX1_startChunk_X1_startBlock : GoodIn wsX1_startChunk wsX1_startBlock := goodIn_r _ [11, 12, 13, 14, 15, 16, 17, 18, 19, 20, 21, 22, 23, 24, 25, 26] (by decide +kernel) (by decide +kernel)
set_option maxRecDepth 20000 in
theorem gX1_startChunk_X1_startBlock : GoodIn wsX1_startChunk (wsV RX1 104 RX1 yX1_startBlock wsX1_startBlock) := goodIn_app (goodIn_of _ (by decide +kernel)) ggX1_startChunk_X1_startBlock
theorem dX1_startChunk_0 : decode cX1_startChunk 0 = .ok (.aload_n 0, 1) := by decide +kernel
theorem dX1_startChunk_1 : decode cX1_startChunk 1 = .ok (.getfield 18, 3) := by decide +kernel
theorem dX1_startChunk_4 : decode cX1_startChunk 4 = .ok (.aload_n 0, 1) := by decide +kernel
theorem dX1_startChunk_5 : decode cX1_startChunk 5 = .ok (.getfield 25, 3) := by decide +kernel
theorem dX1_startChunk_8 : decode cX1_startChunk 8 = .ok (.invokestatic 38, 3) := by decide +kernel
theorem dX1_startChunk_11 : decode cX1_startChunk 11 = .ok (.aload_n 0, 1) := by decide +kernel
theorem dX1_startChunk_12 : decode cX1_startChunk 12 = .ok (.iconst 0, 1) := by decide +kernel
theorem dX1_startChunk_13 : decode cX1_startChunk 13 = .ok (.putfield 64, 3) := by decide +kernel
theorem dX1_startChunk_16 : decode cX1_startChunk 16 = .ok (.aload_n 0, 1) := by decide +kernel
theorem dX1_startChunk_17 : decode cX1_startChunk 17 = .ok (.invokevirtual 104, 3) := by decide +kernel
theorem dX1_startChunk_20 : decode cX1_startChunk 20 = .ok (.return_, 1) := by decide +kernel
theorem dX1_startBlock_0 : decode cX1_startBlock 0 = .ok (.iconst 0, 1) := by decide +kernel
theorem dX1_startBlock_1 : decode cX1_startBlock 1 = .ok (.istore_n 1, 1) := by decide +kernel
theorem dX1_startBlock_2 : decode cX1_startBlock 2 = .ok (.iload_n 1, 1) := by decide +kernel
theorem dX1_startBlock_3 : decode cX1_startBlock 3 = .ok (.aload_n 0, 1) := by decide +kernel
theorem dX1_startBlock_4 : decode cX1_startBlock 4 = .ok (.getfield 28, 3) := by decide +kernel
theorem dX1_startBlock_7 : decode cX1_startBlock 7 = .ok (.arraylength, 1) := by decide +kernel
theorem dX1_startBlock_8 : decode cX1_startBlock 8 = .ok (.if_icmp .ge 16, 3) := by decide +kernel
theorem dX1_startBlock_11 : decode cX1_startBlock 11 = .ok (.aload_n 0, 1) := by decide +kernel
theorem dX1_startBlock_12 : decode cX1_startBlock 12 = .ok (.getfield 28, 3) := by decide +kernel
theorem dX1_startBlock_15 : decode cX1_startBlock 15 = .ok (.iload_n 1, 1) := by decide +kernel
theorem dX1_startBlock_16 : decode cX1_startBlock 16 = .ok (.iconst 0, 1) := by decide +kernel
theorem dX1_startBlock_17 : decode cX1_startBlock 17 = .ok (.iastore, 1) := by decide +kernel
theorem dX1_startBlock_18 : decode cX1_startBlock 18 = .ok (.iinc 1 1, 3) := by decide +kernel
theorem dX1_startBlock_21 : decode cX1_startBlock 21 = .ok (.goto (-19), 3) := by decide +kernel
theorem dX1_startBlock_24 : decode cX1_startBlock 24 = .ok (.aload_n 0, 1) := by decide +kernel
theorem dX1_startBlock_25 : decode cX1_startBlock 25 = .ok (.iconst 0, 1) := by decide +kernel
theorem dX1_startBlock_26 : decode cX1_startBlock 26 = .ok (.putfield 67, 3) := by decide +kernel
theorem dX1_startBlock_29 : decode cX1_startBlock 29 = .ok (.return_, 1) := by decide +kernel
theorem dX1_copyWords_0 : decode cX1_copyWords 0 = .ok (.iconst 0, 1) := by decide +kernel
theorem dX1_copyWords_1 : decode cX1_copyWords 1 = .ok (.istore_n 2, 1) := by decide +kernel
theorem dX1_copyWords_2 : decode cX1_copyWords 2 = .ok (.iload_n 2, 1) := by decide +kernel
theorem dX1_copyWords_3 : decode cX1_copyWords 3 = .ok (.aload_n 1, 1) := by decide +kernel
theorem dX1_copyWords_4 : decode cX1_copyWords 4 = .ok (.arraylength, 1) := by decide +kernel
theorem dX1_copyWords_5 : decode cX1_copyWords 5 = .ok (.if_icmp .ge 21, 3) := by decide +kernel
theorem dX1_copyWords_8 : decode cX1_copyWords 8 = .ok (.iload_n 2, 1) := by decide +kernel
theorem dX1_copyWords_9 : decode cX1_copyWords 9 = .ok (.aload_n 0, 1) := by decide +kernel
theorem dX1_copyWords_10 : decode cX1_copyWords 10 = .ok (.arraylength, 1) := by decide +kernel
theorem dX1_copyWords_11 : decode cX1_copyWords 11 = .ok (.if_icmp .ge 15, 3) := by decide +kernel
theorem dX1_copyWords_14 : decode cX1_copyWords 14 = .ok (.aload_n 1, 1) := by decide +kernel
theorem dX1_copyWords_15 : decode cX1_copyWords 15 = .ok (.iload_n 2, 1) := by decide +kernel
theorem dX1_copyWords_16 : decode cX1_copyWords 16 = .ok (.aload_n 0, 1) := by decide +kernel
theorem dX1_copyWords_17 : decode cX1_copyWords 17 = .ok (.iload_n 2, 1) := by decide +kernel
theorem dX1_copyWords_18 : decode cX1_copyWords 18 = .ok (.iaload, 1) := by decide +kernel
theorem dX1_copyWords_19 : decode cX1_copyWords 19 = .ok (.iastore, 1) := by decide +kernel
theorem dX1_copyWords_20 : decode cX1_copyWords 20 = .ok (.iinc 2 1, 3) := by decide +kernel
theorem dX1_copyWords_23 : decode cX1_copyWords 23 = .ok (.goto (-21), 3) := by decide +kernel
theorem dX1_copyWords_26 : decode cX1_copyWords 26 = .ok (.return_, 1) := by decide +kernel
end
section
theorem dX2_init_0 : decode cX2_init 0 = .ok (.aload_n 0, 1) := by decide +kernel
theorem dX2_init_1 : decode cX2_init 1 = .ok (.invokespecial 3, 3) := by decide +kernel
theorem dX2_init_4 : decode cX2_init 4 = .ok (.aload_n 0, 1) := by decide +kernel
theorem dX2_init_5 : decode cX2_init 5 = .ok (.bipush 8, 2) := by decide +kernel
theorem dX2_init_7 : decode cX2_init 7 = .ok (.newarray .int, 2) := by decide +kernel
theorem dX2_init_9 : decode cX2_init 9 = .ok (.putfield 9, 3) := by decide +kernel
theorem dX2_init_12 : decode cX2_init 12 = .ok (.aload_n 0, 1) := by decide +kernel
theorem dX2_init_13 : decode cX2_init 13 = .ok (.bipush 16, 2) := by decide +kernel
theorem dX2_init_15 : decode cX2_init 15 = .ok (.newarray .int, 2) := by decide +kernel
theorem dX2_init_17 : decode cX2_init 17 = .ok (.putfield 15, 3) := by decide +kernel
theorem dX2_init_20 : decode cX2_init 20 = .ok (.aload_n 0, 1) := by decide +kernel
theorem dX2_init_21 : decode cX2_init 21 = .ok (.bipush 16, 2) := by decide +kernel
theorem dX2_init_23 : decode cX2_init 23 = .ok (.newarray .int, 2) := by decide +kernel
theorem dX2_init_25 : decode cX2_init 25 = .ok (.putfield 18, 3) := by decide +kernel
theorem dX2_init_28 : decode cX2_init 28 = .ok (.aload_n 0, 1) := by decide +kernel
theorem dX2_init_29 : decode cX2_init 29 = .ok (.bipush 16, 2) := by decide +kernel
theorem dX2_init_31 : decode cX2_init 31 = .ok (.newarray .int, 2) := by decide +kernel
theorem dX2_init_33 : decode cX2_init 33 = .ok (.putfield 21, 3) := by decide +kernel
theorem dX2_init_36 : decode cX2_init 36 = .ok (.aload_n 0, 1) := by decide +kernel
theorem dX2_init_37 : decode cX2_init 37 = .ok (.bipush 16, 2) := by decide +kernel
theorem dX2_init_39 : decode cX2_init 39 = .ok (.newarray .int, 2) := by decide +kernel
theorem dX2_init_41 : decode cX2_init 41 = .ok (.putfield 24, 3) := by decide +kernel
theorem dX2_init_44 : decode cX2_init 44 = .ok (.return_, 1) := by decide +kernel
theorem dX2_prepare_0 : decode cX2_prepare 0 = .ok (.iconst 0, 1) := by decide +kernel
theorem dX2_prepare_1 : decode cX2_prepare 1 = .ok (.istore 7, 2) := by decide +kernel
theorem dX2_prepare_3 : decode cX2_prepare 3 = .ok (.iload 7, 2) := by decide +kernel
theorem dX2_prepare_5 : decode cX2_prepare 5 = .ok (.bipush 8, 2) := by decide +kernel
theorem dX2_prepare_7 : decode cX2_prepare 7 = .ok (.if_icmp .ge 20, 3) := by decide +kernel
theorem dX2_prepare_10 : decode cX2_prepare 10 = .ok (.aload_n 0, 1) := by decide +kernel
theorem dX2_prepare_11 : decode cX2_prepare 11 = .ok (.getfield 9, 3) := by decide +kernel
theorem dX2_prepare_14 : decode cX2_prepare 14 = .ok (.iload 7, 2) := by decide +kernel
theorem dX2_prepare_16 : decode cX2_prepare 16 = .ok (.aload_n 1, 1) := by decide +kernel
theorem dX2_prepare_17 : decode cX2_prepare 17 = .ok (.iload 7, 2) := by decide +kernel
theorem dX2_prepare_19 : decode cX2_prepare 19 = .ok (.iaload, 1) := by decide +kernel
theorem dX2_prepare_20 : decode cX2_prepare 20 = .ok (.iastore, 1) := by decide +kernel
theorem dX2_prepare_21 : decode cX2_prepare 21 = .ok (.iinc 7 1, 3) := by decide +kernel
theorem dX2_prepare_24 : decode cX2_prepare 24 = .ok (.goto (-21), 3) := by decide +kernel
theorem dX2_prepare_27 : decode cX2_prepare 27 = .ok (.iconst 0, 1) := by decide +kernel
theorem dX2_prepare_28 : decode cX2_prepare 28 = .ok (.istore 7, 2) := by decide +kernel
theorem dX2_prepare_30 : decode cX2_prepare 30 = .ok (.iload 7, 2) := by decide +kernel
theorem dX2_prepare_32 : decode cX2_prepare 32 = .ok (.bipush 16, 2) := by decide +kernel
theorem dX2_prepare_34 : decode cX2_prepare 34 = .ok (.if_icmp .ge 20, 3) := by decide +kernel
theorem dX2_prepare_37 : decode cX2_prepare 37 = .ok (.aload_n 0, 1) := by decide +kernel
theorem dX2_prepare_38 : decode cX2_prepare 38 = .ok (.getfield 15, 3) := by decide +kernel
theorem dX2_prepare_41 : decode cX2_prepare 41 = .ok (.iload 7, 2) := by decide +kernel
theorem dX2_prepare_43 : decode cX2_prepare 43 = .ok (.aload_n 2, 1) := by decide +kernel
theorem dX2_prepare_44 : decode cX2_prepare 44 = .ok (.iload 7, 2) := by decide +kernel
theorem dX2_prepare_46 : decode cX2_prepare 46 = .ok (.iaload, 1) := by decide +kernel
theorem dX2_prepare_47 : decode cX2_prepare 47 = .ok (.iastore, 1) := by decide +kernel
theorem dX2_prepare_48 : decode cX2_prepare 48 = .ok (.iinc 7 1, 3) := by decide +kernel
theorem dX2_prepare_51 : decode cX2_prepare 51 = .ok (.goto (-21), 3) := by decide +kernel
theorem dX2_prepare_54 : decode cX2_prepare 54 = .ok (.aload_n 0, 1) := by decide +kernel
theorem dX2_prepare_55 : decode cX2_prepare 55 = .ok (.lload_n 3, 1) := by decide +kernel
theorem dX2_prepare_56 : decode cX2_prepare 56 = .ok (.putfield 27, 3) := by decide +kernel
theorem dX2_prepare_59 : decode cX2_prepare 59 = .ok (.aload_n 0, 1) := by decide +kernel
theorem dX2_prepare_60 : decode cX2_prepare 60 = .ok (.iload 5, 2) := by decide +kernel
theorem dX2_prepare_62 : decode cX2_prepare 62 = .ok (.putfield 31, 3) := by decide +kernel
theorem dX2_prepare_65 : decode cX2_prepare 65 = .ok (.aload_n 0, 1) := by decide +kernel
theorem dX2_prepare_66 : decode cX2_prepare 66 = .ok (.iload 6, 2) := by decide +kernel
theorem dX2_prepare_68 : decode cX2_prepare 68 = .ok (.putfield 35, 3) := by decide +kernel
theorem dX2_prepare_71 : decode cX2_prepare 71 = .ok (.return_, 1) := by decide +kernel
set_option maxRecDepth 20000 in
theorem ggX2_joinBehind_X2_prepare : GoodIn wsX2_joinBehind wsX2_prepare := goodIn_r _ [7, 8, 1, 9, 10, 11, 12, 13, 14, 15, 16, 17, 18, 19] (by decide +kernel) (by decide +kernel)
set_option maxRecDepth 20000 in
theorem gX2_joinBehind_X2_prepare : GoodIn wsX2_joinBehind (wsV RX2 38 RX2 yX2_prepare wsX2_prepare) := goodIn_app (goodIn_of _ (by decide +kernel)) ggX2_joinBehind_X2_prepare
theorem dX2_joinBehind_0 : decode cX2_joinBehind 0 = .ok (.iconst 0, 1) := by decide +kernel
theorem dX2_joinBehind_1 : decode cX2_joinBehind 1 = .ok (.istore 5, 2) := by decide +kernel
theorem dX2_joinBehind_3 : decode cX2_joinBehind 3 = .ok (.iload 5, 2) := by decide +kernel
theorem dX2_joinBehind_5 : decode cX2_joinBehind 5 = .ok (.bipush 8, 2) := by decide +kernel
theorem dX2_joinBehind_7 : decode cX2_joinBehind 7 = .ok (.if_icmp .ge 39, 3) := by decide +kernel
theorem dX2_joinBehind_10 : decode cX2_joinBehind 10 = .ok (.aload_n 0, 1) := by decide +kernel
theorem dX2_joinBehind_11 : decode cX2_joinBehind 11 = .ok (.getfield 15, 3) := by decide +kernel
theorem dX2_joinBehind_14 : decode cX2_joinBehind 14 = .ok (.iload 5, 2) := by decide +kernel
theorem dX2_joinBehind_16 : decode cX2_joinBehind 16 = .ok (.aload_n 1, 1) := by decide +kernel
theorem dX2_joinBehind_17 : decode cX2_joinBehind 17 = .ok (.iload_n 2, 1) := by decide +kernel
theorem dX2_joinBehind_18 : decode cX2_joinBehind 18 = .ok (.iload 5, 2) := by decide +kernel
theorem dX2_joinBehind_20 : decode cX2_joinBehind 20 = .ok (.iadd, 1) := by decide +kernel
theorem dX2_joinBehind_21 : decode cX2_joinBehind 21 = .ok (.iaload, 1) := by decide +kernel
theorem dX2_joinBehind_22 : decode cX2_joinBehind 22 = .ok (.iastore, 1) := by decide +kernel
theorem dX2_joinBehind_23 : decode cX2_joinBehind 23 = .ok (.aload_n 0, 1) := by decide +kernel
theorem dX2_joinBehind_24 : decode cX2_joinBehind 24 = .ok (.getfield 15, 3) := by decide +kernel
theorem dX2_joinBehind_27 : decode cX2_joinBehind 27 = .ok (.bipush 8, 2) := by decide +kernel
theorem dX2_joinBehind_29 : decode cX2_joinBehind 29 = .ok (.iload 5, 2) := by decide +kernel
theorem dX2_joinBehind_31 : decode cX2_joinBehind 31 = .ok (.iadd, 1) := by decide +kernel
theorem dX2_joinBehind_32 : decode cX2_joinBehind 32 = .ok (.aload_n 0, 1) := by decide +kernel
theorem dX2_joinBehind_33 : decode cX2_joinBehind 33 = .ok (.getfield 18, 3) := by decide +kernel
theorem dX2_joinBehind_36 : decode cX2_joinBehind 36 = .ok (.iload 5, 2) := by decide +kernel
theorem dX2_joinBehind_38 : decode cX2_joinBehind 38 = .ok (.iaload, 1) := by decide +kernel
theorem dX2_joinBehind_39 : decode cX2_joinBehind 39 = .ok (.iastore, 1) := by decide +kernel
theorem dX2_joinBehind_40 : decode cX2_joinBehind 40 = .ok (.iinc 5 1, 3) := by decide +kernel
theorem dX2_joinBehind_43 : decode cX2_joinBehind 43 = .ok (.goto (-40), 3) := by decide +kernel
theorem dX2_joinBehind_46 : decode cX2_joinBehind 46 = .ok (.aload_n 0, 1) := by decide +kernel
theorem dX2_joinBehind_47 : decode cX2_joinBehind 47 = .ok (.aload_n 3, 1) := by decide +kernel
theorem dX2_joinBehind_48 : decode cX2_joinBehind 48 = .ok (.aload_n 0, 1) := by decide +kernel
theorem dX2_joinBehind_49 : decode cX2_joinBehind 49 = .ok (.getfield 15, 3) := by decide +kernel
theorem dX2_joinBehind_52 : decode cX2_joinBehind 52 = .ok (.lconst 0, 1) := by decide +kernel
theorem dX2_joinBehind_53 : decode cX2_joinBehind 53 = .ok (.bipush 64, 2) := by decide +kernel
theorem dX2_joinBehind_55 : decode cX2_joinBehind 55 = .ok (.iload 4, 2) := by decide +kernel
theorem dX2_joinBehind_57 : decode cX2_joinBehind 57 = .ok (.iconst 4, 1) := by decide +kernel
theorem dX2_joinBehind_58 : decode cX2_joinBehind 58 = .ok (.iadd, 1) := by decide +kernel
theorem dX2_joinBehind_59 : decode cX2_joinBehind 59 = .ok (.invokevirtual 38, 3) := by decide +kernel
theorem dX2_joinBehind_62 : decode cX2_joinBehind 62 = .ok (.return_, 1) := by decide +kernel
set_option maxRecDepth 20000 in
theorem ggX2_joinBefore_X2_prepare : GoodIn wsX2_joinBefore wsX2_prepare := goodIn_r _ [7, 8, 1, 9, 10, 11, 12, 13, 14, 15, 16, 17, 18, 19] (by decide +kernel) (by decide +kernel)
set_option maxRecDepth 20000 in
theorem gX2_joinBefore_X2_prepare : GoodIn wsX2_joinBefore (wsV RX2 38 RX2 yX2_prepare wsX2_prepare) := goodIn_app (goodIn_of _ (by decide +kernel)) ggX2_joinBefore_X2_prepare
theorem dX2_joinBefore_0 : decode cX2_joinBefore 0 = .ok (.iconst 0, 1) := by decide +kernel
theorem dX2_joinBefore_1 : decode cX2_joinBefore 1 = .ok (.istore 5, 2) := by decide +kernel
theorem dX2_joinBefore_3 : decode cX2_joinBefore 3 = .ok (.iload 5, 2) := by decide +kernel
theorem dX2_joinBefore_5 : decode cX2_joinBefore 5 = .ok (.bipush 8, 2) := by decide +kernel
theorem dX2_joinBefore_7 : decode cX2_joinBefore 7 = .ok (.if_icmp .ge 39, 3) := by decide +kernel
theorem dX2_joinBefore_10 : decode cX2_joinBefore 10 = .ok (.aload_n 0, 1) := by decide +kernel
theorem dX2_joinBefore_11 : decode cX2_joinBefore 11 = .ok (.getfield 15, 3) := by decide +kernel
theorem dX2_joinBefore_14 : decode cX2_joinBefore 14 = .ok (.iload 5, 2) := by decide +kernel
theorem dX2_joinBefore_16 : decode cX2_joinBefore 16 = .ok (.aload_n 0, 1) := by decide +kernel
theorem dX2_joinBefore_17 : decode cX2_joinBefore 17 = .ok (.getfield 18, 3) := by decide +kernel
theorem dX2_joinBefore_20 : decode cX2_joinBefore 20 = .ok (.iload 5, 2) := by decide +kernel
theorem dX2_joinBefore_22 : decode cX2_joinBefore 22 = .ok (.iaload, 1) := by decide +kernel
theorem dX2_joinBefore_23 : decode cX2_joinBefore 23 = .ok (.iastore, 1) := by decide +kernel
theorem dX2_joinBefore_24 : decode cX2_joinBefore 24 = .ok (.aload_n 0, 1) := by decide +kernel
theorem dX2_joinBefore_25 : decode cX2_joinBefore 25 = .ok (.getfield 15, 3) := by decide +kernel
theorem dX2_joinBefore_28 : decode cX2_joinBefore 28 = .ok (.bipush 8, 2) := by decide +kernel
theorem dX2_joinBefore_30 : decode cX2_joinBefore 30 = .ok (.iload 5, 2) := by decide +kernel
theorem dX2_joinBefore_32 : decode cX2_joinBefore 32 = .ok (.iadd, 1) := by decide +kernel
theorem dX2_joinBefore_33 : decode cX2_joinBefore 33 = .ok (.aload_n 1, 1) := by decide +kernel
theorem dX2_joinBefore_34 : decode cX2_joinBefore 34 = .ok (.iload_n 2, 1) := by decide +kernel
theorem dX2_joinBefore_35 : decode cX2_joinBefore 35 = .ok (.iload 5, 2) := by decide +kernel
theorem dX2_joinBefore_37 : decode cX2_joinBefore 37 = .ok (.iadd, 1) := by decide +kernel
theorem dX2_joinBefore_38 : decode cX2_joinBefore 38 = .ok (.iaload, 1) := by decide +kernel
theorem dX2_joinBefore_39 : decode cX2_joinBefore 39 = .ok (.iastore, 1) := by decide +kernel
theorem dX2_joinBefore_40 : decode cX2_joinBefore 40 = .ok (.iinc 5 1, 3) := by decide +kernel
theorem dX2_joinBefore_43 : decode cX2_joinBefore 43 = .ok (.goto (-40), 3) := by decide +kernel
theorem dX2_joinBefore_46 : decode cX2_joinBefore 46 = .ok (.aload_n 0, 1) := by decide +kernel
theorem dX2_joinBefore_47 : decode cX2_joinBefore 47 = .ok (.aload_n 3, 1) := by decide +kernel
theorem dX2_joinBefore_48 : decode cX2_joinBefore 48 = .ok (.aload_n 0, 1) := by decide +kernel
theorem dX2_joinBefore_49 : decode cX2_joinBefore 49 = .ok (.getfield 15, 3) := by decide +kernel
theorem dX2_joinBefore_52 : decode cX2_joinBefore 52 = .ok (.lconst 0, 1) := by decide +kernel
theorem dX2_joinBefore_53 : decode cX2_joinBefore 53 = .ok (.bipush 64, 2) := by decide +kernel
theorem dX2_joinBefore_55 : decode cX2_joinBefore 55 = .ok (.iload 4, 2) := by decide +kernel
theorem dX2_joinBefore_57 : decode cX2_joinBefore 57 = .ok (.iconst 4, 1) := by decide +kernel
theorem dX2_joinBefore_58 : decode cX2_joinBefore 58 = .ok (.iadd, 1) := by decide +kernel
theorem dX2_joinBefore_59 : decode cX2_joinBefore 59 = .ok (.invokevirtual 38, 3) := by decide +kernel
theorem dX2_joinBefore_62 : decode cX2_joinBefore 62 = .ok (.return_, 1) := by decide +kernel
theorem dX2_makeRoot_0 : decode cX2_makeRoot 0 = .ok (.aload_n 0, 1) := by decide +kernel
theorem dX2_makeRoot_1 : decode cX2_makeRoot 1 = .ok (.dup, 1) := by decide +kernel
theorem dX2_makeRoot_2 : decode cX2_makeRoot 2 = .ok (.getfield 35, 3) := by decide +kernel
theorem dX2_makeRoot_5 : decode cX2_makeRoot 5 = .ok (.bipush 8, 2) := by decide +kernel
theorem dX2_makeRoot_7 : decode cX2_makeRoot 7 = .ok (.ior, 1) := by decide +kernel
theorem dX2_makeRoot_8 : decode cX2_makeRoot 8 = .ok (.putfield 35, 3) := by decide +kernel
theorem dX2_makeRoot_11 : decode cX2_makeRoot 11 = .ok (.return_, 1) := by decide +kernel
theorem dX2_writeChain_0 : decode cX2_writeChain 0 = .ok (.iconst 0, 1) := by decide +kernel
theorem dX2_writeChain_1 : decode cX2_writeChain 1 = .ok (.istore_n 3, 1) := by decide +kernel
theorem dX2_writeChain_2 : decode cX2_writeChain 2 = .ok (.iload_n 3, 1) := by decide +kernel
theorem dX2_writeChain_3 : decode cX2_writeChain 3 = .ok (.bipush 8, 2) := by decide +kernel
theorem dX2_writeChain_5 : decode cX2_writeChain 5 = .ok (.if_icmp .ge 20, 3) := by decide +kernel
theorem dX2_writeChain_8 : decode cX2_writeChain 8 = .ok (.aload_n 1, 1) := by decide +kernel
theorem dX2_writeChain_9 : decode cX2_writeChain 9 = .ok (.iload_n 2, 1) := by decide +kernel
theorem dX2_writeChain_10 : decode cX2_writeChain 10 = .ok (.iload_n 3, 1) := by decide +kernel
theorem dX2_writeChain_11 : decode cX2_writeChain 11 = .ok (.iadd, 1) := by decide +kernel
theorem dX2_writeChain_12 : decode cX2_writeChain 12 = .ok (.aload_n 0, 1) := by decide +kernel
theorem dX2_writeChain_13 : decode cX2_writeChain 13 = .ok (.getfield 18, 3) := by decide +kernel
theorem dX2_writeChain_16 : decode cX2_writeChain 16 = .ok (.iload_n 3, 1) := by decide +kernel
theorem dX2_writeChain_17 : decode cX2_writeChain 17 = .ok (.iaload, 1) := by decide +kernel
theorem dX2_writeChain_18 : decode cX2_writeChain 18 = .ok (.iastore, 1) := by decide +kernel
theorem dX2_writeChain_19 : decode cX2_writeChain 19 = .ok (.iinc 3 1, 3) := by decide +kernel
theorem dX2_writeChain_22 : decode cX2_writeChain 22 = .ok (.goto (-20), 3) := by decide +kernel
theorem dX2_writeChain_25 : decode cX2_writeChain 25 = .ok (.return_, 1) := by decide +kernel
set_option maxRecDepth 20000 in
theorem ggX2_writeOutput_X0_keepFirst : GoodIn wsX2_writeOutput wsX0_keepFirst := goodIn_r _ [7, 8, 56, 57] (by decide +kernel) (by decide +kernel)
set_option maxRecDepth 20000 in
theorem gX2_writeOutput_X0_keepFirst : GoodIn wsX2_writeOutput (wsV RX2 42 RX0 yX0_keepFirst wsX0_keepFirst) := goodIn_app (goodIn_of _ (by decide +kernel)) ggX2_writeOutput_X0_keepFirst
set_option maxRecDepth 20000 in
theorem ggX2_writeOutput_X2_makeRoot : GoodIn wsX2_writeOutput wsX2_makeRoot := goodIn_r _ [13, 14, 48, 49, 50, 51, 52, 53, 54, 55] (by decide +kernel) (by decide +kernel)
set_option maxRecDepth 20000 in
theorem gX2_writeOutput_X2_makeRoot : GoodIn wsX2_writeOutput (wsV RX2 48 RX2 yX2_makeRoot wsX2_makeRoot) := goodIn_app (goodIn_of _ (by decide +kernel)) ggX2_writeOutput_X2_makeRoot
set_option maxRecDepth 20000 in
theorem ggX2_writeOutput_X2_run : GoodIn wsX2_writeOutput wsX2_run := goodIn_r _ [18, 19, 20, 21, 22, 23, 24, 12, 25, 26, 2, 27, 14, 28, 29, 30, 31, 32, 33, 34, 35, 36, 37, 38, 48, 49, 50, 51, 52, 53, 54, 55] (by decide +kernel) (by decide +kernel)
set_option maxRecDepth 20000 in
theorem gX2_writeOutput_X2_run : GoodIn wsX2_writeOutput (wsV RX2 53 RX2 yX2_run wsX2_run) := goodIn_app (goodIn_of _ (by decide +kernel)) ggX2_writeOutput_X2_run
set_option maxRecDepth 20000 in
theorem ggX2_writeOutput_X2_outputByte : GoodIn wsX2_writeOutput wsX2_outputByte := goodIn_r _ [42, 20, 48, 49, 50, 51, 52, 53, 54, 55] (by decide +kernel) (by decide +kernel)
set_option maxRecDepth 20000 in
theorem gX2_writeOutput_X2_outputByte : GoodIn wsX2_writeOutput (wsV RX2 56 RX2 yX2_outputByte wsX2_outputByte) := goodIn_app (goodIn_of _ (by decide +kernel)) ggX2_writeOutput_X2_outputByte
set_option maxRecDepth 20000 in
theorem ggX2_writeOutput_X0_append : GoodIn wsX2_writeOutput wsX0_append := goodIn_r _ [46, 8, 47, 56, 57] (by decide +kernel) (by decide +kernel)
set_option maxRecDepth 20000 in
theorem gX2_writeOutput_X0_append : GoodIn wsX2_writeOutput (wsV RX2 59 RX0 yX0_append wsX0_append) := goodIn_app (goodIn_of _ (by decide +kernel)) ggX2_writeOutput_X0_append
theorem dX2_writeOutput_0 : decode cX2_writeOutput 0 = .ok (.aload_n 1, 1) := by decide +kernel
theorem dX2_writeOutput_1 : decode cX2_writeOutput 1 = .ok (.iconst 0, 1) := by decide +kernel
theorem dX2_writeOutput_2 : decode cX2_writeOutput 2 = .ok (.invokevirtual 42, 3) := by decide +kernel
theorem dX2_writeOutput_5 : decode cX2_writeOutput 5 = .ok (.pop, 1) := by decide +kernel
theorem dX2_writeOutput_6 : decode cX2_writeOutput 6 = .ok (.aload_n 0, 1) := by decide +kernel
theorem dX2_writeOutput_7 : decode cX2_writeOutput 7 = .ok (.invokevirtual 48, 3) := by decide +kernel
theorem dX2_writeOutput_10 : decode cX2_writeOutput 10 = .ok (.iconst 0, 1) := by decide +kernel
theorem dX2_writeOutput_11 : decode cX2_writeOutput 11 = .ok (.istore 5, 2) := by decide +kernel
theorem dX2_writeOutput_13 : decode cX2_writeOutput 13 = .ok (.iload 5, 2) := by decide +kernel
theorem dX2_writeOutput_15 : decode cX2_writeOutput 15 = .ok (.iload_n 2, 1) := by decide +kernel
theorem dX2_writeOutput_16 : decode cX2_writeOutput 16 = .ok (.if_icmp .ge 57, 3) := by decide +kernel
theorem dX2_writeOutput_19 : decode cX2_writeOutput 19 = .ok (.lload_n 3, 1) := by decide +kernel
theorem dX2_writeOutput_20 : decode cX2_writeOutput 20 = .ok (.iload 5, 2) := by decide +kernel
theorem dX2_writeOutput_22 : decode cX2_writeOutput 22 = .ok (.i2l, 1) := by decide +kernel
theorem dX2_writeOutput_23 : decode cX2_writeOutput 23 = .ok (.ladd, 1) := by decide +kernel
theorem dX2_writeOutput_24 : decode cX2_writeOutput 24 = .ok (.ldc2_w 51, 3) := by decide +kernel
theorem dX2_writeOutput_27 : decode cX2_writeOutput 27 = .ok (.land, 1) := by decide +kernel
theorem dX2_writeOutput_28 : decode cX2_writeOutput 28 = .ok (.l2i, 1) := by decide +kernel
theorem dX2_writeOutput_29 : decode cX2_writeOutput 29 = .ok (.istore 6, 2) := by decide +kernel
theorem dX2_writeOutput_31 : decode cX2_writeOutput 31 = .ok (.iload 5, 2) := by decide +kernel
theorem dX2_writeOutput_33 : decode cX2_writeOutput 33 = .ok (.ifCond .eq 8, 3) := by decide +kernel
theorem dX2_writeOutput_36 : decode cX2_writeOutput 36 = .ok (.iload 6, 2) := by decide +kernel
theorem dX2_writeOutput_38 : decode cX2_writeOutput 38 = .ok (.ifCond .ne 19, 3) := by decide +kernel
theorem dX2_writeOutput_41 : decode cX2_writeOutput 41 = .ok (.aload_n 0, 1) := by decide +kernel
theorem dX2_writeOutput_42 : decode cX2_writeOutput 42 = .ok (.lload_n 3, 1) := by decide +kernel
theorem dX2_writeOutput_43 : decode cX2_writeOutput 43 = .ok (.iload 5, 2) := by decide +kernel
theorem dX2_writeOutput_45 : decode cX2_writeOutput 45 = .ok (.i2l, 1) := by decide +kernel
theorem dX2_writeOutput_46 : decode cX2_writeOutput 46 = .ok (.ladd, 1) := by decide +kernel
theorem dX2_writeOutput_47 : decode cX2_writeOutput 47 = .ok (.bipush 6, 2) := by decide +kernel
theorem dX2_writeOutput_49 : decode cX2_writeOutput 49 = .ok (.lushr, 1) := by decide +kernel
theorem dX2_writeOutput_50 : decode cX2_writeOutput 50 = .ok (.putfield 27, 3) := by decide +kernel
theorem dX2_writeOutput_53 : decode cX2_writeOutput 53 = .ok (.aload_n 0, 1) := by decide +kernel
theorem dX2_writeOutput_54 : decode cX2_writeOutput 54 = .ok (.invokevirtual 53, 3) := by decide +kernel
theorem dX2_writeOutput_57 : decode cX2_writeOutput 57 = .ok (.aload_n 1, 1) := by decide +kernel
theorem dX2_writeOutput_58 : decode cX2_writeOutput 58 = .ok (.aload_n 0, 1) := by decide +kernel
theorem dX2_writeOutput_59 : decode cX2_writeOutput 59 = .ok (.iload 6, 2) := by decide +kernel
theorem dX2_writeOutput_61 : decode cX2_writeOutput 61 = .ok (.invokevirtual 56, 3) := by decide +kernel
theorem dX2_writeOutput_64 : decode cX2_writeOutput 64 = .ok (.invokevirtual 59, 3) := by decide +kernel
theorem dX2_writeOutput_67 : decode cX2_writeOutput 67 = .ok (.iinc 5 1, 3) := by decide +kernel
theorem dX2_writeOutput_70 : decode cX2_writeOutput 70 = .ok (.goto (-57), 3) := by decide +kernel
theorem dX2_writeOutput_73 : decode cX2_writeOutput 73 = .ok (.return_, 1) := by decide +kernel
set_option maxRecDepth 20000 in
theorem ggX2_rootBeginsWith_X2_makeRoot : GoodIn wsX2_rootBeginsWith wsX2_makeRoot := goodIn_r _ [5, 6, 43, 44, 45, 46, 47, 48, 49, 50] (by decide +kernel) (by decide +kernel)
set_option maxRecDepth 20000 in
theorem gX2_rootBeginsWith_X2_makeRoot : GoodIn wsX2_rootBeginsWith (wsV RX2 48 RX2 yX2_makeRoot wsX2_makeRoot) := goodIn_app (goodIn_of _ (by decide +kernel)) ggX2_rootBeginsWith_X2_makeRoot
set_option maxRecDepth 20000 in
theorem ggX2_rootBeginsWith_X2_run : GoodIn wsX2_rootBeginsWith wsX2_run := goodIn_r _ [10, 11, 12, 13, 14, 15, 16, 4, 17, 18, 19, 20, 6, 21, 22, 23, 24, 25, 26, 27, 28, 29, 30, 31, 43, 44, 45, 46, 47, 48, 49, 50] (by decide +kernel) (by decide +kernel)
set_option maxRecDepth 20000 in
theorem gX2_rootBeginsWith_X2_run : GoodIn wsX2_rootBeginsWith (wsV RX2 53 RX2 yX2_run wsX2_run) := goodIn_app (goodIn_of _ (by decide +kernel)) ggX2_rootBeginsWith_X2_run
set_option maxRecDepth 20000 in
theorem ggX2_rootBeginsWith_X2_outputByte : GoodIn wsX2_rootBeginsWith wsX2_outputByte := goodIn_r _ [35, 12, 43, 44, 45, 46, 47, 48, 49, 50] (by decide +kernel) (by decide +kernel)
set_option maxRecDepth 20000 in
theorem gX2_rootBeginsWith_X2_outputByte : GoodIn wsX2_rootBeginsWith (wsV RX2 56 RX2 yX2_outputByte wsX2_outputByte) := goodIn_app (goodIn_of _ (by decide +kernel)) ggX2_rootBeginsWith_X2_outputByte
set_option maxRecDepth 20000 in
theorem ggX2_rootBeginsWith_X0_byteAt : GoodIn wsX2_rootBeginsWith wsX0_byteAt := goodIn_r _ [40, 41, 42, 51, 52] (by decide +kernel) (by decide +kernel)
set_option maxRecDepth 20000 in
theorem gX2_rootBeginsWith_X0_byteAt : GoodIn wsX2_rootBeginsWith (wsV RX2 63 RX0 yX0_byteAt wsX0_byteAt) := goodIn_app (goodIn_of _ (by decide +kernel)) ggX2_rootBeginsWith_X0_byteAt
theorem dX2_rootBeginsWith_0 : decode cX2_rootBeginsWith 0 = .ok (.aload_n 0, 1) := by decide +kernel
theorem dX2_rootBeginsWith_1 : decode cX2_rootBeginsWith 1 = .ok (.invokevirtual 48, 3) := by decide +kernel
theorem dX2_rootBeginsWith_4 : decode cX2_rootBeginsWith 4 = .ok (.aload_n 0, 1) := by decide +kernel
theorem dX2_rootBeginsWith_5 : decode cX2_rootBeginsWith 5 = .ok (.invokevirtual 53, 3) := by decide +kernel
theorem dX2_rootBeginsWith_8 : decode cX2_rootBeginsWith 8 = .ok (.iconst 0, 1) := by decide +kernel
theorem dX2_rootBeginsWith_9 : decode cX2_rootBeginsWith 9 = .ok (.istore_n 2, 1) := by decide +kernel
theorem dX2_rootBeginsWith_10 : decode cX2_rootBeginsWith 10 = .ok (.iload_n 2, 1) := by decide +kernel
theorem dX2_rootBeginsWith_11 : decode cX2_rootBeginsWith 11 = .ok (.bipush 32, 2) := by decide +kernel
theorem dX2_rootBeginsWith_13 : decode cX2_rootBeginsWith 13 = .ok (.if_icmp .ge 24, 3) := by decide +kernel
theorem dX2_rootBeginsWith_16 : decode cX2_rootBeginsWith 16 = .ok (.aload_n 0, 1) := by decide +kernel
theorem dX2_rootBeginsWith_17 : decode cX2_rootBeginsWith 17 = .ok (.iload_n 2, 1) := by decide +kernel
theorem dX2_rootBeginsWith_18 : decode cX2_rootBeginsWith 18 = .ok (.invokevirtual 56, 3) := by decide +kernel
theorem dX2_rootBeginsWith_21 : decode cX2_rootBeginsWith 21 = .ok (.aload_n 1, 1) := by decide +kernel
theorem dX2_rootBeginsWith_22 : decode cX2_rootBeginsWith 22 = .ok (.iload_n 2, 1) := by decide +kernel
theorem dX2_rootBeginsWith_23 : decode cX2_rootBeginsWith 23 = .ok (.invokevirtual 63, 3) := by decide +kernel
theorem dX2_rootBeginsWith_26 : decode cX2_rootBeginsWith 26 = .ok (.if_icmp .eq 5, 3) := by decide +kernel
theorem dX2_rootBeginsWith_29 : decode cX2_rootBeginsWith 29 = .ok (.iconst 0, 1) := by decide +kernel
theorem dX2_rootBeginsWith_30 : decode cX2_rootBeginsWith 30 = .ok (.ireturn, 1) := by decide +kernel
theorem dX2_rootBeginsWith_31 : decode cX2_rootBeginsWith 31 = .ok (.iinc 2 1, 3) := by decide +kernel
theorem dX2_rootBeginsWith_34 : decode cX2_rootBeginsWith 34 = .ok (.goto (-24), 3) := by decide +kernel
theorem dX2_rootBeginsWith_37 : decode cX2_rootBeginsWith 37 = .ok (.iconst 1, 1) := by decide +kernel
theorem dX2_rootBeginsWith_38 : decode cX2_rootBeginsWith 38 = .ok (.ireturn, 1) := by decide +kernel
theorem dX2_outputByte_0 : decode cX2_outputByte 0 = .ok (.aload_n 0, 1) := by decide +kernel
theorem dX2_outputByte_1 : decode cX2_outputByte 1 = .ok (.getfield 18, 3) := by decide +kernel
theorem dX2_outputByte_4 : decode cX2_outputByte 4 = .ok (.iload_n 1, 1) := by decide +kernel
theorem dX2_outputByte_5 : decode cX2_outputByte 5 = .ok (.iconst 2, 1) := by decide +kernel
theorem dX2_outputByte_6 : decode cX2_outputByte 6 = .ok (.ishr, 1) := by decide +kernel
theorem dX2_outputByte_7 : decode cX2_outputByte 7 = .ok (.iaload, 1) := by decide +kernel
theorem dX2_outputByte_8 : decode cX2_outputByte 8 = .ok (.bipush 8, 2) := by decide +kernel
theorem dX2_outputByte_10 : decode cX2_outputByte 10 = .ok (.iload_n 1, 1) := by decide +kernel
theorem dX2_outputByte_11 : decode cX2_outputByte 11 = .ok (.iconst 3, 1) := by decide +kernel
theorem dX2_outputByte_12 : decode cX2_outputByte 12 = .ok (.iand, 1) := by decide +kernel
theorem dX2_outputByte_13 : decode cX2_outputByte 13 = .ok (.imul, 1) := by decide +kernel
theorem dX2_outputByte_14 : decode cX2_outputByte 14 = .ok (.iushr, 1) := by decide +kernel
theorem dX2_outputByte_15 : decode cX2_outputByte 15 = .ok (.sipush 255, 3) := by decide +kernel
theorem dX2_outputByte_18 : decode cX2_outputByte 18 = .ok (.iand, 1) := by decide +kernel
theorem dX2_outputByte_19 : decode cX2_outputByte 19 = .ok (.ireturn, 1) := by decide +kernel
set_option maxRecDepth 20000 in
theorem ggX2_run_X2_fillIn : GoodIn wsX2_run wsX2_fillIn := goodIn_r _ [8, 2, 3, 9, 10, 11, 12, 1, 13, 24, 25, 26, 27, 28, 29, 30, 31] (by decide +kernel) (by decide +kernel)
set_option maxRecDepth 20000 in
theorem gX2_run_X2_fillIn : GoodIn wsX2_run (wsV RX2 66 RX2 yX2_fillIn wsX2_fillIn) := goodIn_app (goodIn_of _ (by decide +kernel)) ggX2_run_X2_fillIn
set_option maxRecDepth 20000 in
theorem ggX2_run_X2_turn : GoodIn wsX2_run wsX2_turn := goodIn_r _ [17, 2, 24, 25, 26, 27, 28, 29, 30, 31] (by decide +kernel) (by decide +kernel)
set_option maxRecDepth 20000 in
theorem gX2_run_X2_turn : GoodIn wsX2_run (wsV RX2 69 RX2 yX2_turn wsX2_turn) := goodIn_app (goodIn_of _ (by decide +kernel)) ggX2_run_X2_turn
set_option maxRecDepth 20000 in
theorem ggX2_run_X2_reorder : GoodIn wsX2_run wsX2_reorder := goodIn_r _ [21, 22, 1, 23, 24, 25, 26, 27, 28, 29, 30, 31] (by decide +kernel) (by decide +kernel)
set_option maxRecDepth 20000 in
theorem gX2_run_X2_reorder : GoodIn wsX2_run (wsV RX2 73 RX2 yX2_reorder wsX2_reorder) := goodIn_app (goodIn_of _ (by decide +kernel)) ggX2_run_X2_reorder
theorem dX2_run_0 : decode cX2_run 0 = .ok (.aload_n 0, 1) := by decide +kernel
theorem dX2_run_1 : decode cX2_run 1 = .ok (.invokevirtual 66, 3) := by decide +kernel
theorem dX2_run_4 : decode cX2_run 4 = .ok (.iconst 0, 1) := by decide +kernel
theorem dX2_run_5 : decode cX2_run 5 = .ok (.istore_n 1, 1) := by decide +kernel
theorem dX2_run_6 : decode cX2_run 6 = .ok (.iload_n 1, 1) := by decide +kernel
theorem dX2_run_7 : decode cX2_run 7 = .ok (.bipush 7, 2) := by decide +kernel
theorem dX2_run_9 : decode cX2_run 9 = .ok (.if_icmp .ge 203, 3) := by decide +kernel
theorem dX2_run_12 : decode cX2_run 12 = .ok (.aload_n 0, 1) := by decide +kernel
theorem dX2_run_13 : decode cX2_run 13 = .ok (.iconst 0, 1) := by decide +kernel
theorem dX2_run_14 : decode cX2_run 14 = .ok (.iconst 4, 1) := by decide +kernel
theorem dX2_run_15 : decode cX2_run 15 = .ok (.bipush 8, 2) := by decide +kernel
theorem dX2_run_17 : decode cX2_run 17 = .ok (.bipush 12, 2) := by decide +kernel
theorem dX2_run_19 : decode cX2_run 19 = .ok (.aload_n 0, 1) := by decide +kernel
theorem dX2_run_20 : decode cX2_run 20 = .ok (.getfield 21, 3) := by decide +kernel
theorem dX2_run_23 : decode cX2_run 23 = .ok (.iconst 0, 1) := by decide +kernel
theorem dX2_run_24 : decode cX2_run 24 = .ok (.iaload, 1) := by decide +kernel
theorem dX2_run_25 : decode cX2_run 25 = .ok (.aload_n 0, 1) := by decide +kernel
theorem dX2_run_26 : decode cX2_run 26 = .ok (.getfield 21, 3) := by decide +kernel
theorem dX2_run_29 : decode cX2_run 29 = .ok (.iconst 1, 1) := by decide +kernel
theorem dX2_run_30 : decode cX2_run 30 = .ok (.iaload, 1) := by decide +kernel
theorem dX2_run_31 : decode cX2_run 31 = .ok (.invokevirtual 69, 3) := by decide +kernel
theorem dX2_run_34 : decode cX2_run 34 = .ok (.aload_n 0, 1) := by decide +kernel
theorem dX2_run_35 : decode cX2_run 35 = .ok (.iconst 1, 1) := by decide +kernel
theorem dX2_run_36 : decode cX2_run 36 = .ok (.iconst 5, 1) := by decide +kernel
theorem dX2_run_37 : decode cX2_run 37 = .ok (.bipush 9, 2) := by decide +kernel
theorem dX2_run_39 : decode cX2_run 39 = .ok (.bipush 13, 2) := by decide +kernel
theorem dX2_run_41 : decode cX2_run 41 = .ok (.aload_n 0, 1) := by decide +kernel
theorem dX2_run_42 : decode cX2_run 42 = .ok (.getfield 21, 3) := by decide +kernel
theorem dX2_run_45 : decode cX2_run 45 = .ok (.iconst 2, 1) := by decide +kernel
theorem dX2_run_46 : decode cX2_run 46 = .ok (.iaload, 1) := by decide +kernel
theorem dX2_run_47 : decode cX2_run 47 = .ok (.aload_n 0, 1) := by decide +kernel
theorem dX2_run_48 : decode cX2_run 48 = .ok (.getfield 21, 3) := by decide +kernel
theorem dX2_run_51 : decode cX2_run 51 = .ok (.iconst 3, 1) := by decide +kernel
theorem dX2_run_52 : decode cX2_run 52 = .ok (.iaload, 1) := by decide +kernel
theorem dX2_run_53 : decode cX2_run 53 = .ok (.invokevirtual 69, 3) := by decide +kernel
theorem dX2_run_56 : decode cX2_run 56 = .ok (.aload_n 0, 1) := by decide +kernel
theorem dX2_run_57 : decode cX2_run 57 = .ok (.iconst 2, 1) := by decide +kernel
theorem dX2_run_58 : decode cX2_run 58 = .ok (.bipush 6, 2) := by decide +kernel
theorem dX2_run_60 : decode cX2_run 60 = .ok (.bipush 10, 2) := by decide +kernel
theorem dX2_run_62 : decode cX2_run 62 = .ok (.bipush 14, 2) := by decide +kernel
theorem dX2_run_64 : decode cX2_run 64 = .ok (.aload_n 0, 1) := by decide +kernel
theorem dX2_run_65 : decode cX2_run 65 = .ok (.getfield 21, 3) := by decide +kernel
theorem dX2_run_68 : decode cX2_run 68 = .ok (.iconst 4, 1) := by decide +kernel
theorem dX2_run_69 : decode cX2_run 69 = .ok (.iaload, 1) := by decide +kernel
theorem dX2_run_70 : decode cX2_run 70 = .ok (.aload_n 0, 1) := by decide +kernel
theorem dX2_run_71 : decode cX2_run 71 = .ok (.getfield 21, 3) := by decide +kernel
theorem dX2_run_74 : decode cX2_run 74 = .ok (.iconst 5, 1) := by decide +kernel
theorem dX2_run_75 : decode cX2_run 75 = .ok (.iaload, 1) := by decide +kernel
theorem dX2_run_76 : decode cX2_run 76 = .ok (.invokevirtual 69, 3) := by decide +kernel
theorem dX2_run_79 : decode cX2_run 79 = .ok (.aload_n 0, 1) := by decide +kernel
theorem dX2_run_80 : decode cX2_run 80 = .ok (.iconst 3, 1) := by decide +kernel
theorem dX2_run_81 : decode cX2_run 81 = .ok (.bipush 7, 2) := by decide +kernel
theorem dX2_run_83 : decode cX2_run 83 = .ok (.bipush 11, 2) := by decide +kernel
theorem dX2_run_85 : decode cX2_run 85 = .ok (.bipush 15, 2) := by decide +kernel
theorem dX2_run_87 : decode cX2_run 87 = .ok (.aload_n 0, 1) := by decide +kernel
theorem dX2_run_88 : decode cX2_run 88 = .ok (.getfield 21, 3) := by decide +kernel
theorem dX2_run_91 : decode cX2_run 91 = .ok (.bipush 6, 2) := by decide +kernel
theorem dX2_run_93 : decode cX2_run 93 = .ok (.iaload, 1) := by decide +kernel
theorem dX2_run_94 : decode cX2_run 94 = .ok (.aload_n 0, 1) := by decide +kernel
theorem dX2_run_95 : decode cX2_run 95 = .ok (.getfield 21, 3) := by decide +kernel
theorem dX2_run_98 : decode cX2_run 98 = .ok (.bipush 7, 2) := by decide +kernel
theorem dX2_run_100 : decode cX2_run 100 = .ok (.iaload, 1) := by decide +kernel
theorem dX2_run_101 : decode cX2_run 101 = .ok (.invokevirtual 69, 3) := by decide +kernel
theorem dX2_run_104 : decode cX2_run 104 = .ok (.aload_n 0, 1) := by decide +kernel
theorem dX2_run_105 : decode cX2_run 105 = .ok (.iconst 0, 1) := by decide +kernel
theorem dX2_run_106 : decode cX2_run 106 = .ok (.iconst 5, 1) := by decide +kernel
theorem dX2_run_107 : decode cX2_run 107 = .ok (.bipush 10, 2) := by decide +kernel
theorem dX2_run_109 : decode cX2_run 109 = .ok (.bipush 15, 2) := by decide +kernel
theorem dX2_run_111 : decode cX2_run 111 = .ok (.aload_n 0, 1) := by decide +kernel
theorem dX2_run_112 : decode cX2_run 112 = .ok (.getfield 21, 3) := by decide +kernel
theorem dX2_run_115 : decode cX2_run 115 = .ok (.bipush 8, 2) := by decide +kernel
theorem dX2_run_117 : decode cX2_run 117 = .ok (.iaload, 1) := by decide +kernel
theorem dX2_run_118 : decode cX2_run 118 = .ok (.aload_n 0, 1) := by decide +kernel
theorem dX2_run_119 : decode cX2_run 119 = .ok (.getfield 21, 3) := by decide +kernel
theorem dX2_run_122 : decode cX2_run 122 = .ok (.bipush 9, 2) := by decide +kernel
theorem dX2_run_124 : decode cX2_run 124 = .ok (.iaload, 1) := by decide +kernel
theorem dX2_run_125 : decode cX2_run 125 = .ok (.invokevirtual 69, 3) := by decide +kernel
theorem dX2_run_128 : decode cX2_run 128 = .ok (.aload_n 0, 1) := by decide +kernel
theorem dX2_run_129 : decode cX2_run 129 = .ok (.iconst 1, 1) := by decide +kernel
theorem dX2_run_130 : decode cX2_run 130 = .ok (.bipush 6, 2) := by decide +kernel
theorem dX2_run_132 : decode cX2_run 132 = .ok (.bipush 11, 2) := by decide +kernel
theorem dX2_run_134 : decode cX2_run 134 = .ok (.bipush 12, 2) := by decide +kernel
theorem dX2_run_136 : decode cX2_run 136 = .ok (.aload_n 0, 1) := by decide +kernel
theorem dX2_run_137 : decode cX2_run 137 = .ok (.getfield 21, 3) := by decide +kernel
theorem dX2_run_140 : decode cX2_run 140 = .ok (.bipush 10, 2) := by decide +kernel
theorem dX2_run_142 : decode cX2_run 142 = .ok (.iaload, 1) := by decide +kernel
theorem dX2_run_143 : decode cX2_run 143 = .ok (.aload_n 0, 1) := by decide +kernel
theorem dX2_run_144 : decode cX2_run 144 = .ok (.getfield 21, 3) := by decide +kernel
theorem dX2_run_147 : decode cX2_run 147 = .ok (.bipush 11, 2) := by decide +kernel
theorem dX2_run_149 : decode cX2_run 149 = .ok (.iaload, 1) := by decide +kernel
theorem dX2_run_150 : decode cX2_run 150 = .ok (.invokevirtual 69, 3) := by decide +kernel
theorem dX2_run_153 : decode cX2_run 153 = .ok (.aload_n 0, 1) := by decide +kernel
theorem dX2_run_154 : decode cX2_run 154 = .ok (.iconst 2, 1) := by decide +kernel
theorem dX2_run_155 : decode cX2_run 155 = .ok (.bipush 7, 2) := by decide +kernel
theorem dX2_run_157 : decode cX2_run 157 = .ok (.bipush 8, 2) := by decide +kernel
theorem dX2_run_159 : decode cX2_run 159 = .ok (.bipush 13, 2) := by decide +kernel
theorem dX2_run_161 : decode cX2_run 161 = .ok (.aload_n 0, 1) := by decide +kernel
theorem dX2_run_162 : decode cX2_run 162 = .ok (.getfield 21, 3) := by decide +kernel
theorem dX2_run_165 : decode cX2_run 165 = .ok (.bipush 12, 2) := by decide +kernel
theorem dX2_run_167 : decode cX2_run 167 = .ok (.iaload, 1) := by decide +kernel
theorem dX2_run_168 : decode cX2_run 168 = .ok (.aload_n 0, 1) := by decide +kernel
theorem dX2_run_169 : decode cX2_run 169 = .ok (.getfield 21, 3) := by decide +kernel
theorem dX2_run_172 : decode cX2_run 172 = .ok (.bipush 13, 2) := by decide +kernel
theorem dX2_run_174 : decode cX2_run 174 = .ok (.iaload, 1) := by decide +kernel
theorem dX2_run_175 : decode cX2_run 175 = .ok (.invokevirtual 69, 3) := by decide +kernel
theorem dX2_run_178 : decode cX2_run 178 = .ok (.aload_n 0, 1) := by decide +kernel
theorem dX2_run_179 : decode cX2_run 179 = .ok (.iconst 3, 1) := by decide +kernel
theorem dX2_run_180 : decode cX2_run 180 = .ok (.iconst 4, 1) := by decide +kernel
theorem dX2_run_181 : decode cX2_run 181 = .ok (.bipush 9, 2) := by decide +kernel
theorem dX2_run_183 : decode cX2_run 183 = .ok (.bipush 14, 2) := by decide +kernel
theorem dX2_run_185 : decode cX2_run 185 = .ok (.aload_n 0, 1) := by decide +kernel
theorem dX2_run_186 : decode cX2_run 186 = .ok (.getfield 21, 3) := by decide +kernel
theorem dX2_run_189 : decode cX2_run 189 = .ok (.bipush 14, 2) := by decide +kernel
theorem dX2_run_191 : decode cX2_run 191 = .ok (.iaload, 1) := by decide +kernel
theorem dX2_run_192 : decode cX2_run 192 = .ok (.aload_n 0, 1) := by decide +kernel
theorem dX2_run_193 : decode cX2_run 193 = .ok (.getfield 21, 3) := by decide +kernel
theorem dX2_run_196 : decode cX2_run 196 = .ok (.bipush 15, 2) := by decide +kernel
theorem dX2_run_198 : decode cX2_run 198 = .ok (.iaload, 1) := by decide +kernel
theorem dX2_run_199 : decode cX2_run 199 = .ok (.invokevirtual 69, 3) := by decide +kernel
theorem dX2_run_202 : decode cX2_run 202 = .ok (.aload_n 0, 1) := by decide +kernel
theorem dX2_run_203 : decode cX2_run 203 = .ok (.invokevirtual 73, 3) := by decide +kernel
theorem dX2_run_206 : decode cX2_run 206 = .ok (.iinc 1 1, 3) := by decide +kernel
theorem dX2_run_209 : decode cX2_run 209 = .ok (.goto (-203), 3) := by decide +kernel
theorem dX2_run_212 : decode cX2_run 212 = .ok (.iconst 0, 1) := by decide +kernel
theorem dX2_run_213 : decode cX2_run 213 = .ok (.istore_n 1, 1) := by decide +kernel
theorem dX2_run_214 : decode cX2_run 214 = .ok (.iload_n 1, 1) := by decide +kernel
theorem dX2_run_215 : decode cX2_run 215 = .ok (.bipush 8, 2) := by decide +kernel
theorem dX2_run_217 : decode cX2_run 217 = .ok (.if_icmp .ge 45, 3) := by decide +kernel
theorem dX2_run_220 : decode cX2_run 220 = .ok (.aload_n 0, 1) := by decide +kernel
theorem dX2_run_221 : decode cX2_run 221 = .ok (.getfield 18, 3) := by decide +kernel
theorem dX2_run_224 : decode cX2_run 224 = .ok (.iload_n 1, 1) := by decide +kernel
theorem dX2_run_225 : decode cX2_run 225 = .ok (.dup2, 1) := by decide +kernel
theorem dX2_run_226 : decode cX2_run 226 = .ok (.iaload, 1) := by decide +kernel
theorem dX2_run_227 : decode cX2_run 227 = .ok (.aload_n 0, 1) := by decide +kernel
theorem dX2_run_228 : decode cX2_run 228 = .ok (.getfield 18, 3) := by decide +kernel
theorem dX2_run_231 : decode cX2_run 231 = .ok (.iload_n 1, 1) := by decide +kernel
theorem dX2_run_232 : decode cX2_run 232 = .ok (.bipush 8, 2) := by decide +kernel
theorem dX2_run_234 : decode cX2_run 234 = .ok (.iadd, 1) := by decide +kernel
theorem dX2_run_235 : decode cX2_run 235 = .ok (.iaload, 1) := by decide +kernel
theorem dX2_run_236 : decode cX2_run 236 = .ok (.ixor, 1) := by decide +kernel
theorem dX2_run_237 : decode cX2_run 237 = .ok (.iastore, 1) := by decide +kernel
theorem dX2_run_238 : decode cX2_run 238 = .ok (.aload_n 0, 1) := by decide +kernel
theorem dX2_run_239 : decode cX2_run 239 = .ok (.getfield 18, 3) := by decide +kernel
theorem dX2_run_242 : decode cX2_run 242 = .ok (.iload_n 1, 1) := by decide +kernel
theorem dX2_run_243 : decode cX2_run 243 = .ok (.bipush 8, 2) := by decide +kernel
theorem dX2_run_245 : decode cX2_run 245 = .ok (.iadd, 1) := by decide +kernel
theorem dX2_run_246 : decode cX2_run 246 = .ok (.dup2, 1) := by decide +kernel
theorem dX2_run_247 : decode cX2_run 247 = .ok (.iaload, 1) := by decide +kernel
theorem dX2_run_248 : decode cX2_run 248 = .ok (.aload_n 0, 1) := by decide +kernel
theorem dX2_run_249 : decode cX2_run 249 = .ok (.getfield 9, 3) := by decide +kernel
theorem dX2_run_252 : decode cX2_run 252 = .ok (.iload_n 1, 1) := by decide +kernel
theorem dX2_run_253 : decode cX2_run 253 = .ok (.iaload, 1) := by decide +kernel
theorem dX2_run_254 : decode cX2_run 254 = .ok (.ixor, 1) := by decide +kernel
theorem dX2_run_255 : decode cX2_run 255 = .ok (.iastore, 1) := by decide +kernel
theorem dX2_run_256 : decode cX2_run 256 = .ok (.iinc 1 1, 3) := by decide +kernel
theorem dX2_run_259 : decode cX2_run 259 = .ok (.goto (-45), 3) := by decide +kernel
theorem dX2_run_262 : decode cX2_run 262 = .ok (.return_, 1) := by decide +kernel
theorem dX2_fillIn_0 : decode cX2_fillIn 0 = .ok (.iconst 0, 1) := by decide +kernel
theorem dX2_fillIn_1 : decode cX2_fillIn 1 = .ok (.istore_n 1, 1) := by decide +kernel
theorem dX2_fillIn_2 : decode cX2_fillIn 2 = .ok (.iload_n 1, 1) := by decide +kernel
theorem dX2_fillIn_3 : decode cX2_fillIn 3 = .ok (.bipush 8, 2) := by decide +kernel
theorem dX2_fillIn_5 : decode cX2_fillIn 5 = .ok (.if_icmp .ge 21, 3) := by decide +kernel
theorem dX2_fillIn_8 : decode cX2_fillIn 8 = .ok (.aload_n 0, 1) := by decide +kernel
theorem dX2_fillIn_9 : decode cX2_fillIn 9 = .ok (.getfield 18, 3) := by decide +kernel
theorem dX2_fillIn_12 : decode cX2_fillIn 12 = .ok (.iload_n 1, 1) := by decide +kernel
theorem dX2_fillIn_13 : decode cX2_fillIn 13 = .ok (.aload_n 0, 1) := by decide +kernel
theorem dX2_fillIn_14 : decode cX2_fillIn 14 = .ok (.getfield 9, 3) := by decide +kernel
theorem dX2_fillIn_17 : decode cX2_fillIn 17 = .ok (.iload_n 1, 1) := by decide +kernel
theorem dX2_fillIn_18 : decode cX2_fillIn 18 = .ok (.iaload, 1) := by decide +kernel
theorem dX2_fillIn_19 : decode cX2_fillIn 19 = .ok (.iastore, 1) := by decide +kernel
theorem dX2_fillIn_20 : decode cX2_fillIn 20 = .ok (.iinc 1 1, 3) := by decide +kernel
theorem dX2_fillIn_23 : decode cX2_fillIn 23 = .ok (.goto (-21), 3) := by decide +kernel
theorem dX2_fillIn_26 : decode cX2_fillIn 26 = .ok (.iconst 0, 1) := by decide +kernel
theorem dX2_fillIn_27 : decode cX2_fillIn 27 = .ok (.istore_n 1, 1) := by decide +kernel
theorem dX2_fillIn_28 : decode cX2_fillIn 28 = .ok (.iload_n 1, 1) := by decide +kernel
theorem dX2_fillIn_29 : decode cX2_fillIn 29 = .ok (.iconst 4, 1) := by decide +kernel
theorem dX2_fillIn_30 : decode cX2_fillIn 30 = .ok (.if_icmp .ge 23, 3) := by decide +kernel
theorem dX2_fillIn_33 : decode cX2_fillIn 33 = .ok (.aload_n 0, 1) := by decide +kernel
theorem dX2_fillIn_34 : decode cX2_fillIn 34 = .ok (.getfield 18, 3) := by decide +kernel
theorem dX2_fillIn_37 : decode cX2_fillIn 37 = .ok (.bipush 8, 2) := by decide +kernel
theorem dX2_fillIn_39 : decode cX2_fillIn 39 = .ok (.iload_n 1, 1) := by decide +kernel
theorem dX2_fillIn_40 : decode cX2_fillIn 40 = .ok (.iadd, 1) := by decide +kernel
theorem dX2_fillIn_41 : decode cX2_fillIn 41 = .ok (.getstatic 76, 3) := by decide +kernel
theorem dX2_fillIn_44 : decode cX2_fillIn 44 = .ok (.iload_n 1, 1) := by decide +kernel
theorem dX2_fillIn_45 : decode cX2_fillIn 45 = .ok (.iaload, 1) := by decide +kernel
theorem dX2_fillIn_46 : decode cX2_fillIn 46 = .ok (.iastore, 1) := by decide +kernel
theorem dX2_fillIn_47 : decode cX2_fillIn 47 = .ok (.iinc 1 1, 3) := by decide +kernel
theorem dX2_fillIn_50 : decode cX2_fillIn 50 = .ok (.goto (-22), 3) := by decide +kernel
theorem dX2_fillIn_53 : decode cX2_fillIn 53 = .ok (.aload_n 0, 1) := by decide +kernel
theorem dX2_fillIn_54 : decode cX2_fillIn 54 = .ok (.getfield 18, 3) := by decide +kernel
theorem dX2_fillIn_57 : decode cX2_fillIn 57 = .ok (.bipush 12, 2) := by decide +kernel
theorem dX2_fillIn_59 : decode cX2_fillIn 59 = .ok (.aload_n 0, 1) := by decide +kernel
theorem dX2_fillIn_60 : decode cX2_fillIn 60 = .ok (.getfield 27, 3) := by decide +kernel
theorem dX2_fillIn_63 : decode cX2_fillIn 63 = .ok (.l2i, 1) := by decide +kernel
theorem dX2_fillIn_64 : decode cX2_fillIn 64 = .ok (.iastore, 1) := by decide +kernel
theorem dX2_fillIn_65 : decode cX2_fillIn 65 = .ok (.aload_n 0, 1) := by decide +kernel
theorem dX2_fillIn_66 : decode cX2_fillIn 66 = .ok (.getfield 18, 3) := by decide +kernel
theorem dX2_fillIn_69 : decode cX2_fillIn 69 = .ok (.bipush 13, 2) := by decide +kernel
theorem dX2_fillIn_71 : decode cX2_fillIn 71 = .ok (.aload_n 0, 1) := by decide +kernel
theorem dX2_fillIn_72 : decode cX2_fillIn 72 = .ok (.getfield 27, 3) := by decide +kernel
theorem dX2_fillIn_75 : decode cX2_fillIn 75 = .ok (.bipush 32, 2) := by decide +kernel
theorem dX2_fillIn_77 : decode cX2_fillIn 77 = .ok (.lushr, 1) := by decide +kernel
theorem dX2_fillIn_78 : decode cX2_fillIn 78 = .ok (.l2i, 1) := by decide +kernel
theorem dX2_fillIn_79 : decode cX2_fillIn 79 = .ok (.iastore, 1) := by decide +kernel
theorem dX2_fillIn_80 : decode cX2_fillIn 80 = .ok (.aload_n 0, 1) := by decide +kernel
theorem dX2_fillIn_81 : decode cX2_fillIn 81 = .ok (.getfield 18, 3) := by decide +kernel
theorem dX2_fillIn_84 : decode cX2_fillIn 84 = .ok (.bipush 14, 2) := by decide +kernel
theorem dX2_fillIn_86 : decode cX2_fillIn 86 = .ok (.aload_n 0, 1) := by decide +kernel
theorem dX2_fillIn_87 : decode cX2_fillIn 87 = .ok (.getfield 31, 3) := by decide +kernel
theorem dX2_fillIn_90 : decode cX2_fillIn 90 = .ok (.iastore, 1) := by decide +kernel
theorem dX2_fillIn_91 : decode cX2_fillIn 91 = .ok (.aload_n 0, 1) := by decide +kernel
theorem dX2_fillIn_92 : decode cX2_fillIn 92 = .ok (.getfield 18, 3) := by decide +kernel
theorem dX2_fillIn_95 : decode cX2_fillIn 95 = .ok (.bipush 15, 2) := by decide +kernel
theorem dX2_fillIn_97 : decode cX2_fillIn 97 = .ok (.aload_n 0, 1) := by decide +kernel
theorem dX2_fillIn_98 : decode cX2_fillIn 98 = .ok (.getfield 35, 3) := by decide +kernel
theorem dX2_fillIn_101 : decode cX2_fillIn 101 = .ok (.iastore, 1) := by decide +kernel
theorem dX2_fillIn_102 : decode cX2_fillIn 102 = .ok (.iconst 0, 1) := by decide +kernel
theorem dX2_fillIn_103 : decode cX2_fillIn 103 = .ok (.istore_n 1, 1) := by decide +kernel
theorem dX2_fillIn_104 : decode cX2_fillIn 104 = .ok (.iload_n 1, 1) := by decide +kernel
theorem dX2_fillIn_105 : decode cX2_fillIn 105 = .ok (.bipush 16, 2) := by decide +kernel
theorem dX2_fillIn_107 : decode cX2_fillIn 107 = .ok (.if_icmp .ge 21, 3) := by decide +kernel
theorem dX2_fillIn_110 : decode cX2_fillIn 110 = .ok (.aload_n 0, 1) := by decide +kernel
theorem dX2_fillIn_111 : decode cX2_fillIn 111 = .ok (.getfield 21, 3) := by decide +kernel
theorem dX2_fillIn_114 : decode cX2_fillIn 114 = .ok (.iload_n 1, 1) := by decide +kernel
theorem dX2_fillIn_115 : decode cX2_fillIn 115 = .ok (.aload_n 0, 1) := by decide +kernel
theorem dX2_fillIn_116 : decode cX2_fillIn 116 = .ok (.getfield 15, 3) := by decide +kernel
theorem dX2_fillIn_119 : decode cX2_fillIn 119 = .ok (.iload_n 1, 1) := by decide +kernel
theorem dX2_fillIn_120 : decode cX2_fillIn 120 = .ok (.iaload, 1) := by decide +kernel
theorem dX2_fillIn_121 : decode cX2_fillIn 121 = .ok (.iastore, 1) := by decide +kernel
theorem dX2_fillIn_122 : decode cX2_fillIn 122 = .ok (.iinc 1 1, 3) := by decide +kernel
theorem dX2_fillIn_125 : decode cX2_fillIn 125 = .ok (.goto (-21), 3) := by decide +kernel
theorem dX2_fillIn_128 : decode cX2_fillIn 128 = .ok (.return_, 1) := by decide +kernel
theorem dX2_turn_0 : decode cX2_turn 0 = .ok (.aload_n 0, 1) := by decide +kernel
theorem dX2_turn_1 : decode cX2_turn 1 = .ok (.getfield 18, 3) := by decide +kernel
theorem dX2_turn_4 : decode cX2_turn 4 = .ok (.iload_n 1, 1) := by decide +kernel
theorem dX2_turn_5 : decode cX2_turn 5 = .ok (.iaload, 1) := by decide +kernel
theorem dX2_turn_6 : decode cX2_turn 6 = .ok (.aload_n 0, 1) := by decide +kernel
theorem dX2_turn_7 : decode cX2_turn 7 = .ok (.getfield 18, 3) := by decide +kernel
theorem dX2_turn_10 : decode cX2_turn 10 = .ok (.iload_n 2, 1) := by decide +kernel
theorem dX2_turn_11 : decode cX2_turn 11 = .ok (.iaload, 1) := by decide +kernel
theorem dX2_turn_12 : decode cX2_turn 12 = .ok (.iadd, 1) := by decide +kernel
theorem dX2_turn_13 : decode cX2_turn 13 = .ok (.iload 5, 2) := by decide +kernel
theorem dX2_turn_15 : decode cX2_turn 15 = .ok (.iadd, 1) := by decide +kernel
theorem dX2_turn_16 : decode cX2_turn 16 = .ok (.istore 7, 2) := by decide +kernel
theorem dX2_turn_18 : decode cX2_turn 18 = .ok (.aload_n 0, 1) := by decide +kernel
theorem dX2_turn_19 : decode cX2_turn 19 = .ok (.getfield 18, 3) := by decide +kernel
theorem dX2_turn_22 : decode cX2_turn 22 = .ok (.iload 4, 2) := by decide +kernel
theorem dX2_turn_24 : decode cX2_turn 24 = .ok (.iaload, 1) := by decide +kernel
theorem dX2_turn_25 : decode cX2_turn 25 = .ok (.iload 7, 2) := by decide +kernel
theorem dX2_turn_27 : decode cX2_turn 27 = .ok (.ixor, 1) := by decide +kernel
theorem dX2_turn_28 : decode cX2_turn 28 = .ok (.istore 8, 2) := by decide +kernel
theorem dX2_turn_30 : decode cX2_turn 30 = .ok (.iload 8, 2) := by decide +kernel
theorem dX2_turn_32 : decode cX2_turn 32 = .ok (.bipush 16, 2) := by decide +kernel
theorem dX2_turn_34 : decode cX2_turn 34 = .ok (.iushr, 1) := by decide +kernel
theorem dX2_turn_35 : decode cX2_turn 35 = .ok (.iload 8, 2) := by decide +kernel
theorem dX2_turn_37 : decode cX2_turn 37 = .ok (.bipush 16, 2) := by decide +kernel
theorem dX2_turn_39 : decode cX2_turn 39 = .ok (.ishl, 1) := by decide +kernel
theorem dX2_turn_40 : decode cX2_turn 40 = .ok (.ior, 1) := by decide +kernel
theorem dX2_turn_41 : decode cX2_turn 41 = .ok (.istore 8, 2) := by decide +kernel
theorem dX2_turn_43 : decode cX2_turn 43 = .ok (.aload_n 0, 1) := by decide +kernel
theorem dX2_turn_44 : decode cX2_turn 44 = .ok (.getfield 18, 3) := by decide +kernel
theorem dX2_turn_47 : decode cX2_turn 47 = .ok (.iload_n 3, 1) := by decide +kernel
theorem dX2_turn_48 : decode cX2_turn 48 = .ok (.iaload, 1) := by decide +kernel
theorem dX2_turn_49 : decode cX2_turn 49 = .ok (.iload 8, 2) := by decide +kernel
theorem dX2_turn_51 : decode cX2_turn 51 = .ok (.iadd, 1) := by decide +kernel
theorem dX2_turn_52 : decode cX2_turn 52 = .ok (.istore 9, 2) := by decide +kernel
theorem dX2_turn_54 : decode cX2_turn 54 = .ok (.aload_n 0, 1) := by decide +kernel
theorem dX2_turn_55 : decode cX2_turn 55 = .ok (.getfield 18, 3) := by decide +kernel
theorem dX2_turn_58 : decode cX2_turn 58 = .ok (.iload_n 2, 1) := by decide +kernel
theorem dX2_turn_59 : decode cX2_turn 59 = .ok (.iaload, 1) := by decide +kernel
theorem dX2_turn_60 : decode cX2_turn 60 = .ok (.iload 9, 2) := by decide +kernel
theorem dX2_turn_62 : decode cX2_turn 62 = .ok (.ixor, 1) := by decide +kernel
theorem dX2_turn_63 : decode cX2_turn 63 = .ok (.istore 10, 2) := by decide +kernel
theorem dX2_turn_65 : decode cX2_turn 65 = .ok (.iload 10, 2) := by decide +kernel
theorem dX2_turn_67 : decode cX2_turn 67 = .ok (.bipush 12, 2) := by decide +kernel
theorem dX2_turn_69 : decode cX2_turn 69 = .ok (.iushr, 1) := by decide +kernel
theorem dX2_turn_70 : decode cX2_turn 70 = .ok (.iload 10, 2) := by decide +kernel
theorem dX2_turn_72 : decode cX2_turn 72 = .ok (.bipush 20, 2) := by decide +kernel
theorem dX2_turn_74 : decode cX2_turn 74 = .ok (.ishl, 1) := by decide +kernel
theorem dX2_turn_75 : decode cX2_turn 75 = .ok (.ior, 1) := by decide +kernel
theorem dX2_turn_76 : decode cX2_turn 76 = .ok (.istore 10, 2) := by decide +kernel
theorem dX2_turn_78 : decode cX2_turn 78 = .ok (.iload 7, 2) := by decide +kernel
theorem dX2_turn_80 : decode cX2_turn 80 = .ok (.iload 10, 2) := by decide +kernel
theorem dX2_turn_82 : decode cX2_turn 82 = .ok (.iload 6, 2) := by decide +kernel
theorem dX2_turn_84 : decode cX2_turn 84 = .ok (.iadd, 1) := by decide +kernel
theorem dX2_turn_85 : decode cX2_turn 85 = .ok (.iadd, 1) := by decide +kernel
theorem dX2_turn_86 : decode cX2_turn 86 = .ok (.istore 7, 2) := by decide +kernel
theorem dX2_turn_88 : decode cX2_turn 88 = .ok (.iload 8, 2) := by decide +kernel
theorem dX2_turn_90 : decode cX2_turn 90 = .ok (.iload 7, 2) := by decide +kernel
theorem dX2_turn_92 : decode cX2_turn 92 = .ok (.ixor, 1) := by decide +kernel
theorem dX2_turn_93 : decode cX2_turn 93 = .ok (.istore 8, 2) := by decide +kernel
theorem dX2_turn_95 : decode cX2_turn 95 = .ok (.iload 8, 2) := by decide +kernel
theorem dX2_turn_97 : decode cX2_turn 97 = .ok (.bipush 8, 2) := by decide +kernel
theorem dX2_turn_99 : decode cX2_turn 99 = .ok (.iushr, 1) := by decide +kernel
theorem dX2_turn_100 : decode cX2_turn 100 = .ok (.iload 8, 2) := by decide +kernel
theorem dX2_turn_102 : decode cX2_turn 102 = .ok (.bipush 24, 2) := by decide +kernel
theorem dX2_turn_104 : decode cX2_turn 104 = .ok (.ishl, 1) := by decide +kernel
theorem dX2_turn_105 : decode cX2_turn 105 = .ok (.ior, 1) := by decide +kernel
theorem dX2_turn_106 : decode cX2_turn 106 = .ok (.istore 8, 2) := by decide +kernel
theorem dX2_turn_108 : decode cX2_turn 108 = .ok (.iload 9, 2) := by decide +kernel
theorem dX2_turn_110 : decode cX2_turn 110 = .ok (.iload 8, 2) := by decide +kernel
theorem dX2_turn_112 : decode cX2_turn 112 = .ok (.iadd, 1) := by decide +kernel
theorem dX2_turn_113 : decode cX2_turn 113 = .ok (.istore 9, 2) := by decide +kernel
theorem dX2_turn_115 : decode cX2_turn 115 = .ok (.iload 10, 2) := by decide +kernel
theorem dX2_turn_117 : decode cX2_turn 117 = .ok (.iload 9, 2) := by decide +kernel
theorem dX2_turn_119 : decode cX2_turn 119 = .ok (.ixor, 1) := by decide +kernel
theorem dX2_turn_120 : decode cX2_turn 120 = .ok (.istore 10, 2) := by decide +kernel
theorem dX2_turn_122 : decode cX2_turn 122 = .ok (.iload 10, 2) := by decide +kernel
theorem dX2_turn_124 : decode cX2_turn 124 = .ok (.bipush 7, 2) := by decide +kernel
theorem dX2_turn_126 : decode cX2_turn 126 = .ok (.iushr, 1) := by decide +kernel
theorem dX2_turn_127 : decode cX2_turn 127 = .ok (.iload 10, 2) := by decide +kernel
theorem dX2_turn_129 : decode cX2_turn 129 = .ok (.bipush 25, 2) := by decide +kernel
theorem dX2_turn_131 : decode cX2_turn 131 = .ok (.ishl, 1) := by decide +kernel
theorem dX2_turn_132 : decode cX2_turn 132 = .ok (.ior, 1) := by decide +kernel
theorem dX2_turn_133 : decode cX2_turn 133 = .ok (.istore 10, 2) := by decide +kernel
theorem dX2_turn_135 : decode cX2_turn 135 = .ok (.aload_n 0, 1) := by decide +kernel
theorem dX2_turn_136 : decode cX2_turn 136 = .ok (.getfield 18, 3) := by decide +kernel
theorem dX2_turn_139 : decode cX2_turn 139 = .ok (.iload_n 1, 1) := by decide +kernel
theorem dX2_turn_140 : decode cX2_turn 140 = .ok (.iload 7, 2) := by decide +kernel
theorem dX2_turn_142 : decode cX2_turn 142 = .ok (.iastore, 1) := by decide +kernel
theorem dX2_turn_143 : decode cX2_turn 143 = .ok (.aload_n 0, 1) := by decide +kernel
theorem dX2_turn_144 : decode cX2_turn 144 = .ok (.getfield 18, 3) := by decide +kernel
theorem dX2_turn_147 : decode cX2_turn 147 = .ok (.iload_n 2, 1) := by decide +kernel
theorem dX2_turn_148 : decode cX2_turn 148 = .ok (.iload 10, 2) := by decide +kernel
theorem dX2_turn_150 : decode cX2_turn 150 = .ok (.iastore, 1) := by decide +kernel
theorem dX2_turn_151 : decode cX2_turn 151 = .ok (.aload_n 0, 1) := by decide +kernel
theorem dX2_turn_152 : decode cX2_turn 152 = .ok (.getfield 18, 3) := by decide +kernel
theorem dX2_turn_155 : decode cX2_turn 155 = .ok (.iload_n 3, 1) := by decide +kernel
theorem dX2_turn_156 : decode cX2_turn 156 = .ok (.iload 9, 2) := by decide +kernel
theorem dX2_turn_158 : decode cX2_turn 158 = .ok (.iastore, 1) := by decide +kernel
theorem dX2_turn_159 : decode cX2_turn 159 = .ok (.aload_n 0, 1) := by decide +kernel
theorem dX2_turn_160 : decode cX2_turn 160 = .ok (.getfield 18, 3) := by decide +kernel
theorem dX2_turn_163 : decode cX2_turn 163 = .ok (.iload 4, 2) := by decide +kernel
theorem dX2_turn_165 : decode cX2_turn 165 = .ok (.iload 8, 2) := by decide +kernel
theorem dX2_turn_167 : decode cX2_turn 167 = .ok (.iastore, 1) := by decide +kernel
theorem dX2_turn_168 : decode cX2_turn 168 = .ok (.return_, 1) := by decide +kernel
theorem dX2_reorder_0 : decode cX2_reorder 0 = .ok (.iconst 0, 1) := by decide +kernel
theorem dX2_reorder_1 : decode cX2_reorder 1 = .ok (.istore_n 1, 1) := by decide +kernel
theorem dX2_reorder_2 : decode cX2_reorder 2 = .ok (.iload_n 1, 1) := by decide +kernel
theorem dX2_reorder_3 : decode cX2_reorder 3 = .ok (.bipush 16, 2) := by decide +kernel
theorem dX2_reorder_5 : decode cX2_reorder 5 = .ok (.if_icmp .ge 25, 3) := by decide +kernel
theorem dX2_reorder_8 : decode cX2_reorder 8 = .ok (.aload_n 0, 1) := by decide +kernel
theorem dX2_reorder_9 : decode cX2_reorder 9 = .ok (.getfield 24, 3) := by decide +kernel
theorem dX2_reorder_12 : decode cX2_reorder 12 = .ok (.iload_n 1, 1) := by decide +kernel
theorem dX2_reorder_13 : decode cX2_reorder 13 = .ok (.aload_n 0, 1) := by decide +kernel
theorem dX2_reorder_14 : decode cX2_reorder 14 = .ok (.getfield 21, 3) := by decide +kernel
theorem dX2_reorder_17 : decode cX2_reorder 17 = .ok (.getstatic 79, 3) := by decide +kernel
theorem dX2_reorder_20 : decode cX2_reorder 20 = .ok (.iload_n 1, 1) := by decide +kernel
theorem dX2_reorder_21 : decode cX2_reorder 21 = .ok (.iaload, 1) := by decide +kernel
theorem dX2_reorder_22 : decode cX2_reorder 22 = .ok (.iaload, 1) := by decide +kernel
theorem dX2_reorder_23 : decode cX2_reorder 23 = .ok (.iastore, 1) := by decide +kernel
theorem dX2_reorder_24 : decode cX2_reorder 24 = .ok (.iinc 1 1, 3) := by decide +kernel
theorem dX2_reorder_27 : decode cX2_reorder 27 = .ok (.goto (-25), 3) := by decide +kernel
theorem dX2_reorder_30 : decode cX2_reorder 30 = .ok (.aload_n 0, 1) := by decide +kernel
theorem dX2_reorder_31 : decode cX2_reorder 31 = .ok (.getfield 21, 3) := by decide +kernel
theorem dX2_reorder_34 : decode cX2_reorder 34 = .ok (.astore_n 1, 1) := by decide +kernel
theorem dX2_reorder_35 : decode cX2_reorder 35 = .ok (.aload_n 0, 1) := by decide +kernel
theorem dX2_reorder_36 : decode cX2_reorder 36 = .ok (.aload_n 0, 1) := by decide +kernel
theorem dX2_reorder_37 : decode cX2_reorder 37 = .ok (.getfield 24, 3) := by decide +kernel
theorem dX2_reorder_40 : decode cX2_reorder 40 = .ok (.putfield 21, 3) := by decide +kernel
theorem dX2_reorder_43 : decode cX2_reorder 43 = .ok (.aload_n 0, 1) := by decide +kernel
theorem dX2_reorder_44 : decode cX2_reorder 44 = .ok (.aload_n 1, 1) := by decide +kernel
theorem dX2_reorder_45 : decode cX2_reorder 45 = .ok (.putfield 24, 3) := by decide +kernel
theorem dX2_reorder_48 : decode cX2_reorder 48 = .ok (.return_, 1) := by decide +kernel
theorem dX3_init_0 : decode cX3_init 0 = .ok (.aload_n 0, 1) := by decide +kernel
theorem dX3_init_1 : decode cX3_init 1 = .ok (.invokespecial 1, 3) := by decide +kernel
theorem dX3_init_4 : decode cX3_init 4 = .ok (.aload_n 0, 1) := by decide +kernel
theorem dX3_init_5 : decode cX3_init 5 = .ok (.bipush 10, 2) := by decide +kernel
theorem dX3_init_7 : decode cX3_init 7 = .ok (.newarray .int, 2) := by decide +kernel
theorem dX3_init_9 : decode cX3_init 9 = .ok (.putfield 9, 3) := by decide +kernel
theorem dX3_init_12 : decode cX3_init 12 = .ok (.aload_n 0, 1) := by decide +kernel
theorem dX3_init_13 : decode cX3_init 13 = .ok (.bipush 10, 2) := by decide +kernel
theorem dX3_init_15 : decode cX3_init 15 = .ok (.newarray .int, 2) := by decide +kernel
theorem dX3_init_17 : decode cX3_init 17 = .ok (.putfield 13, 3) := by decide +kernel
theorem dX3_init_20 : decode cX3_init 20 = .ok (.return_, 1) := by decide +kernel
set_option maxRecDepth 20000 in
theorem ggX3_lead_X3_leftOf : GoodIn wsX3_lead wsX3_leftOf := goodIn_r _ [7] (by decide +kernel) (by decide +kernel)
set_option maxRecDepth 20000 in
theorem gX3_lead_X3_leftOf : GoodIn wsX3_lead (va_wsS RX3 20 yX3_leftOf wsX3_leftOf) := goodIn_app (goodIn_of _ (by decide +kernel)) ggX3_lead_X3_leftOf
theorem dX3_lead_0 : decode cX3_lead 0 = .ok (.iconst 0, 1) := by decide +kernel
theorem dX3_lead_1 : decode cX3_lead 1 = .ok (.istore_n 3, 1) := by decide +kernel
theorem dX3_lead_2 : decode cX3_lead 2 = .ok (.iload_n 1, 1) := by decide +kernel
theorem dX3_lead_3 : decode cX3_lead 3 = .ok (.istore 4, 2) := by decide +kernel
theorem dX3_lead_5 : decode cX3_lead 5 = .ok (.aload_n 0, 1) := by decide +kernel
theorem dX3_lead_6 : decode cX3_lead 6 = .ok (.iconst 0, 1) := by decide +kernel
theorem dX3_lead_7 : decode cX3_lead 7 = .ok (.putfield 16, 3) := by decide +kernel
theorem dX3_lead_10 : decode cX3_lead 10 = .ok (.iload 4, 2) := by decide +kernel
theorem dX3_lead_12 : decode cX3_lead 12 = .ok (.iconst 1, 1) := by decide +kernel
theorem dX3_lead_13 : decode cX3_lead 13 = .ok (.if_icmp .le 107, 3) := by decide +kernel
theorem dX3_lead_16 : decode cX3_lead 16 = .ok (.aload_n 0, 1) := by decide +kernel
theorem dX3_lead_17 : decode cX3_lead 17 = .ok (.getfield 16, 3) := by decide +kernel
theorem dX3_lead_20 : decode cX3_lead 20 = .ok (.bipush 10, 2) := by decide +kernel
theorem dX3_lead_22 : decode cX3_lead 22 = .ok (.if_icmp .ge 98, 3) := by decide +kernel
theorem dX3_lead_25 : decode cX3_lead 25 = .ok (.iload 4, 2) := by decide +kernel
theorem dX3_lead_27 : decode cX3_lead 27 = .ok (.invokestatic 20, 3) := by decide +kernel
theorem dX3_lead_30 : decode cX3_lead 30 = .ok (.istore 5, 2) := by decide +kernel
theorem dX3_lead_32 : decode cX3_lead 32 = .ok (.iload_n 2, 1) := by decide +kernel
theorem dX3_lead_33 : decode cX3_lead 33 = .ok (.iload_n 3, 1) := by decide +kernel
theorem dX3_lead_34 : decode cX3_lead 34 = .ok (.iload 5, 2) := by decide +kernel
theorem dX3_lead_36 : decode cX3_lead 36 = .ok (.iadd, 1) := by decide +kernel
theorem dX3_lead_37 : decode cX3_lead 37 = .ok (.if_icmp .ge 37, 3) := by decide +kernel
theorem dX3_lead_40 : decode cX3_lead 40 = .ok (.aload_n 0, 1) := by decide +kernel
theorem dX3_lead_41 : decode cX3_lead 41 = .ok (.getfield 9, 3) := by decide +kernel
theorem dX3_lead_44 : decode cX3_lead 44 = .ok (.aload_n 0, 1) := by decide +kernel
theorem dX3_lead_45 : decode cX3_lead 45 = .ok (.getfield 16, 3) := by decide +kernel
theorem dX3_lead_48 : decode cX3_lead 48 = .ok (.iload_n 3, 1) := by decide +kernel
theorem dX3_lead_49 : decode cX3_lead 49 = .ok (.iload 5, 2) := by decide +kernel
theorem dX3_lead_51 : decode cX3_lead 51 = .ok (.iadd, 1) := by decide +kernel
theorem dX3_lead_52 : decode cX3_lead 52 = .ok (.iastore, 1) := by decide +kernel
theorem dX3_lead_53 : decode cX3_lead 53 = .ok (.aload_n 0, 1) := by decide +kernel
theorem dX3_lead_54 : decode cX3_lead 54 = .ok (.getfield 13, 3) := by decide +kernel
theorem dX3_lead_57 : decode cX3_lead 57 = .ok (.aload_n 0, 1) := by decide +kernel
theorem dX3_lead_58 : decode cX3_lead 58 = .ok (.getfield 16, 3) := by decide +kernel
theorem dX3_lead_61 : decode cX3_lead 61 = .ok (.iload 4, 2) := by decide +kernel
theorem dX3_lead_63 : decode cX3_lead 63 = .ok (.iload 5, 2) := by decide +kernel
theorem dX3_lead_65 : decode cX3_lead 65 = .ok (.isub, 1) := by decide +kernel
theorem dX3_lead_66 : decode cX3_lead 66 = .ok (.iastore, 1) := by decide +kernel
theorem dX3_lead_67 : decode cX3_lead 67 = .ok (.iload 5, 2) := by decide +kernel
theorem dX3_lead_69 : decode cX3_lead 69 = .ok (.istore 4, 2) := by decide +kernel
theorem dX3_lead_71 : decode cX3_lead 71 = .ok (.goto 36, 3) := by decide +kernel
theorem dX3_lead_74 : decode cX3_lead 74 = .ok (.aload_n 0, 1) := by decide +kernel
theorem dX3_lead_75 : decode cX3_lead 75 = .ok (.getfield 9, 3) := by decide +kernel
theorem dX3_lead_78 : decode cX3_lead 78 = .ok (.aload_n 0, 1) := by decide +kernel
theorem dX3_lead_79 : decode cX3_lead 79 = .ok (.getfield 16, 3) := by decide +kernel
theorem dX3_lead_82 : decode cX3_lead 82 = .ok (.iload_n 3, 1) := by decide +kernel
theorem dX3_lead_83 : decode cX3_lead 83 = .ok (.iastore, 1) := by decide +kernel
theorem dX3_lead_84 : decode cX3_lead 84 = .ok (.aload_n 0, 1) := by decide +kernel
theorem dX3_lead_85 : decode cX3_lead 85 = .ok (.getfield 13, 3) := by decide +kernel
theorem dX3_lead_88 : decode cX3_lead 88 = .ok (.aload_n 0, 1) := by decide +kernel
theorem dX3_lead_89 : decode cX3_lead 89 = .ok (.getfield 16, 3) := by decide +kernel
theorem dX3_lead_92 : decode cX3_lead 92 = .ok (.iload 5, 2) := by decide +kernel
theorem dX3_lead_94 : decode cX3_lead 94 = .ok (.iastore, 1) := by decide +kernel
theorem dX3_lead_95 : decode cX3_lead 95 = .ok (.iload_n 3, 1) := by decide +kernel
theorem dX3_lead_96 : decode cX3_lead 96 = .ok (.iload 5, 2) := by decide +kernel
theorem dX3_lead_98 : decode cX3_lead 98 = .ok (.iadd, 1) := by decide +kernel
theorem dX3_lead_99 : decode cX3_lead 99 = .ok (.istore_n 3, 1) := by decide +kernel
theorem dX3_lead_100 : decode cX3_lead 100 = .ok (.iload 4, 2) := by decide +kernel
theorem dX3_lead_102 : decode cX3_lead 102 = .ok (.iload 5, 2) := by decide +kernel
theorem dX3_lead_104 : decode cX3_lead 104 = .ok (.isub, 1) := by decide +kernel
theorem dX3_lead_105 : decode cX3_lead 105 = .ok (.istore 4, 2) := by decide +kernel
theorem dX3_lead_107 : decode cX3_lead 107 = .ok (.aload_n 0, 1) := by decide +kernel
theorem dX3_lead_108 : decode cX3_lead 108 = .ok (.dup, 1) := by decide +kernel
theorem dX3_lead_109 : decode cX3_lead 109 = .ok (.getfield 16, 3) := by decide +kernel
theorem dX3_lead_112 : decode cX3_lead 112 = .ok (.iconst 1, 1) := by decide +kernel
theorem dX3_lead_113 : decode cX3_lead 113 = .ok (.iadd, 1) := by decide +kernel
theorem dX3_lead_114 : decode cX3_lead 114 = .ok (.putfield 16, 3) := by decide +kernel
theorem dX3_lead_117 : decode cX3_lead 117 = .ok (.goto (-107), 3) := by decide +kernel
theorem dX3_lead_120 : decode cX3_lead 120 = .ok (.return_, 1) := by decide +kernel
theorem dX3_leftOf_0 : decode cX3_leftOf 0 = .ok (.iconst 1, 1) := by decide +kernel
theorem dX3_leftOf_1 : decode cX3_leftOf 1 = .ok (.istore_n 1, 1) := by decide +kernel
theorem dX3_leftOf_2 : decode cX3_leftOf 2 = .ok (.iconst 1, 1) := by decide +kernel
theorem dX3_leftOf_3 : decode cX3_leftOf 3 = .ok (.istore_n 2, 1) := by decide +kernel
theorem dX3_leftOf_4 : decode cX3_leftOf 4 = .ok (.iload_n 2, 1) := by decide +kernel
theorem dX3_leftOf_5 : decode cX3_leftOf 5 = .ok (.bipush 10, 2) := by decide +kernel
theorem dX3_leftOf_7 : decode cX3_leftOf 7 = .ok (.if_icmp .ge 20, 3) := by decide +kernel
theorem dX3_leftOf_10 : decode cX3_leftOf 10 = .ok (.iconst 2, 1) := by decide +kernel
theorem dX3_leftOf_11 : decode cX3_leftOf 11 = .ok (.iload_n 1, 1) := by decide +kernel
theorem dX3_leftOf_12 : decode cX3_leftOf 12 = .ok (.imul, 1) := by decide +kernel
theorem dX3_leftOf_13 : decode cX3_leftOf 13 = .ok (.iload_n 0, 1) := by decide +kernel
theorem dX3_leftOf_14 : decode cX3_leftOf 14 = .ok (.if_icmp .ge 13, 3) := by decide +kernel
theorem dX3_leftOf_17 : decode cX3_leftOf 17 = .ok (.iload_n 1, 1) := by decide +kernel
theorem dX3_leftOf_18 : decode cX3_leftOf 18 = .ok (.iconst 2, 1) := by decide +kernel
theorem dX3_leftOf_19 : decode cX3_leftOf 19 = .ok (.imul, 1) := by decide +kernel
theorem dX3_leftOf_20 : decode cX3_leftOf 20 = .ok (.istore_n 1, 1) := by decide +kernel
theorem dX3_leftOf_21 : decode cX3_leftOf 21 = .ok (.iinc 2 1, 3) := by decide +kernel
theorem dX3_leftOf_24 : decode cX3_leftOf 24 = .ok (.goto (-20), 3) := by decide +kernel
theorem dX3_leftOf_27 : decode cX3_leftOf 27 = .ok (.iload_n 1, 1) := by decide +kernel
theorem dX3_leftOf_28 : decode cX3_leftOf 28 = .ok (.ireturn, 1) := by decide +kernel
end
section
set_option maxRecDepth 20000 in
theorem ggX4_init_X0_init : GoodIn wsX4_init wsX0_init := goodIn_r _ [23, 24, 2, 3, 25, 26, 27, 28, 29, 30, 87, 88] (by decide +kernel) (by decide +kernel)
set_option maxRecDepth 20000 in
theorem gX4_init_X0_init : GoodIn wsX4_init (wsX0_init) := ggX4_init_X0_init
set_option maxRecDepth 20000 in
theorem ggX4_init_X1_init : GoodIn wsX4_init wsX1_init := goodIn_r _ [33, 34, 2, 3, 35, 36, 37, 38, 19, 39, 40, 41, 42, 43, 44, 45, 46, 47, 48, 49, 50, 51, 52, 53, 54, 13, 55, 56, 57, 58, 59, 60, 61, 62, 63, 64, 65, 66, 67, 68, 69, 70, 71, 72, 73, 74, 105, 106, 107, 108, 109, 110, 111, 112, 89, 90, 91, 92, 93, 94, 95, 96, 97, 98, 99, 100, 101] (by decide +kernel) (by decide +kernel)
set_option maxRecDepth 20000 in
theorem gX4_init_X1_init : GoodIn wsX4_init (wsX1_init) := ggX4_init_X1_init
set_option maxRecDepth 20000 in
theorem ggX4_init_X3_init : GoodIn wsX4_init wsX3_init := goodIn_r _ [76, 77, 2, 3, 19, 78, 79, 102, 103, 104] (by decide +kernel) (by decide +kernel)
set_option maxRecDepth 20000 in
theorem gX4_init_X3_init_n38 : GoodIn wsX4_init (wsX3_init) := ggX4_init_X3_init
theorem dX4_init_0 : decode cX4_init 0 = .ok (.aload_n 0, 1) := by decide +kernel
theorem dX4_init_1 : decode cX4_init 1 = .ok (.invokespecial 3, 3) := by decide +kernel
theorem dX4_init_4 : decode cX4_init 4 = .ok (.aload_n 0, 1) := by decide +kernel
theorem dX4_init_5 : decode cX4_init 5 = .ok (.bipush 8, 2) := by decide +kernel
theorem dX4_init_7 : decode cX4_init 7 = .ok (.anewarray 9, 3) := by decide +kernel
theorem dX4_init_10 : decode cX4_init 10 = .ok (.putfield 11, 3) := by decide +kernel
theorem dX4_init_13 : decode cX4_init 13 = .ok (.aload_n 0, 1) := by decide +kernel
theorem dX4_init_14 : decode cX4_init 14 = .ok (.iconst 4, 1) := by decide +kernel
theorem dX4_init_15 : decode cX4_init 15 = .ok (.anewarray 15, 3) := by decide +kernel
theorem dX4_init_18 : decode cX4_init 18 = .ok (.putfield 17, 3) := by decide +kernel
theorem dX4_init_21 : decode cX4_init 21 = .ok (.aload_n 0, 1) := by decide +kernel
theorem dX4_init_22 : decode cX4_init 22 = .ok (.new 9, 3) := by decide +kernel
theorem dX4_init_25 : decode cX4_init 25 = .ok (.dup, 1) := by decide +kernel
theorem dX4_init_26 : decode cX4_init 26 = .ok (.sipush 20000, 3) := by decide +kernel
theorem dX4_init_29 : decode cX4_init 29 = .ok (.invokespecial 21, 3) := by decide +kernel
theorem dX4_init_32 : decode cX4_init 32 = .ok (.putfield 24, 3) := by decide +kernel
theorem dX4_init_35 : decode cX4_init 35 = .ok (.aload_n 0, 1) := by decide +kernel
theorem dX4_init_36 : decode cX4_init 36 = .ok (.new 9, 3) := by decide +kernel
theorem dX4_init_39 : decode cX4_init 39 = .ok (.dup, 1) := by decide +kernel
theorem dX4_init_40 : decode cX4_init 40 = .ok (.sipush 1184, 3) := by decide +kernel
theorem dX4_init_43 : decode cX4_init 43 = .ok (.invokespecial 21, 3) := by decide +kernel
theorem dX4_init_46 : decode cX4_init 46 = .ok (.putfield 28, 3) := by decide +kernel
theorem dX4_init_49 : decode cX4_init 49 = .ok (.aload_n 0, 1) := by decide +kernel
theorem dX4_init_50 : decode cX4_init 50 = .ok (.new 15, 3) := by decide +kernel
theorem dX4_init_53 : decode cX4_init 53 = .ok (.dup, 1) := by decide +kernel
theorem dX4_init_54 : decode cX4_init 54 = .ok (.invokespecial 31, 3) := by decide +kernel
theorem dX4_init_57 : decode cX4_init 57 = .ok (.putfield 32, 3) := by decide +kernel
theorem dX4_init_60 : decode cX4_init 60 = .ok (.aload_n 0, 1) := by decide +kernel
theorem dX4_init_61 : decode cX4_init 61 = .ok (.new 36, 3) := by decide +kernel
theorem dX4_init_64 : decode cX4_init 64 = .ok (.dup, 1) := by decide +kernel
theorem dX4_init_65 : decode cX4_init 65 = .ok (.invokespecial 38, 3) := by decide +kernel
theorem dX4_init_68 : decode cX4_init 68 = .ok (.putfield 39, 3) := by decide +kernel
theorem dX4_init_71 : decode cX4_init 71 = .ok (.aload_n 0, 1) := by decide +kernel
theorem dX4_init_72 : decode cX4_init 72 = .ok (.bipush 8, 2) := by decide +kernel
theorem dX4_init_74 : decode cX4_init 74 = .ok (.newarray .int, 2) := by decide +kernel
theorem dX4_init_76 : decode cX4_init 76 = .ok (.putfield 43, 3) := by decide +kernel
theorem dX4_init_79 : decode cX4_init 79 = .ok (.iconst 0, 1) := by decide +kernel
theorem dX4_init_80 : decode cX4_init 80 = .ok (.istore_n 1, 1) := by decide +kernel
theorem dX4_init_81 : decode cX4_init 81 = .ok (.iload_n 1, 1) := by decide +kernel
theorem dX4_init_82 : decode cX4_init 82 = .ok (.bipush 8, 2) := by decide +kernel
theorem dX4_init_84 : decode cX4_init 84 = .ok (.if_icmp .ge 25, 3) := by decide +kernel
theorem dX4_init_87 : decode cX4_init 87 = .ok (.aload_n 0, 1) := by decide +kernel
theorem dX4_init_88 : decode cX4_init 88 = .ok (.getfield 11, 3) := by decide +kernel
theorem dX4_init_91 : decode cX4_init 91 = .ok (.iload_n 1, 1) := by decide +kernel
theorem dX4_init_92 : decode cX4_init 92 = .ok (.new 9, 3) := by decide +kernel
theorem dX4_init_95 : decode cX4_init 95 = .ok (.dup, 1) := by decide +kernel
theorem dX4_init_96 : decode cX4_init 96 = .ok (.sipush 200, 3) := by decide +kernel
theorem dX4_init_99 : decode cX4_init 99 = .ok (.invokespecial 21, 3) := by decide +kernel
theorem dX4_init_102 : decode cX4_init 102 = .ok (.aastore, 1) := by decide +kernel
theorem dX4_init_103 : decode cX4_init 103 = .ok (.iinc 1 1, 3) := by decide +kernel
theorem dX4_init_106 : decode cX4_init 106 = .ok (.goto (-25), 3) := by decide +kernel
theorem dX4_init_109 : decode cX4_init 109 = .ok (.iconst 0, 1) := by decide +kernel
theorem dX4_init_110 : decode cX4_init 110 = .ok (.istore_n 1, 1) := by decide +kernel
theorem dX4_init_111 : decode cX4_init 111 = .ok (.iload_n 1, 1) := by decide +kernel
theorem dX4_init_112 : decode cX4_init 112 = .ok (.iconst 4, 1) := by decide +kernel
theorem dX4_init_113 : decode cX4_init 113 = .ok (.if_icmp .ge 22, 3) := by decide +kernel
theorem dX4_init_116 : decode cX4_init 116 = .ok (.aload_n 0, 1) := by decide +kernel
theorem dX4_init_117 : decode cX4_init 117 = .ok (.getfield 17, 3) := by decide +kernel
theorem dX4_init_120 : decode cX4_init 120 = .ok (.iload_n 1, 1) := by decide +kernel
theorem dX4_init_121 : decode cX4_init 121 = .ok (.new 15, 3) := by decide +kernel
theorem dX4_init_124 : decode cX4_init 124 = .ok (.dup, 1) := by decide +kernel
theorem dX4_init_125 : decode cX4_init 125 = .ok (.invokespecial 31, 3) := by decide +kernel
theorem dX4_init_128 : decode cX4_init 128 = .ok (.aastore, 1) := by decide +kernel
theorem dX4_init_129 : decode cX4_init 129 = .ok (.iinc 1 1, 3) := by decide +kernel
theorem dX4_init_132 : decode cX4_init 132 = .ok (.goto (-21), 3) := by decide +kernel
theorem dX4_init_135 : decode cX4_init 135 = .ok (.return_, 1) := by decide +kernel
set_option maxRecDepth 20000 in
theorem ggX4_add_X4_isRegister : GoodIn wsX4_add wsX4_isRegister := goodIn_r _ [5] (by decide +kernel) (by decide +kernel)
set_option maxRecDepth 20000 in
theorem gX4_add_X4_isRegister : GoodIn wsX4_add (va_wsS RX4 47 yX4_isRegister wsX4_isRegister) := goodIn_app (goodIn_of _ (by decide +kernel)) ggX4_add_X4_isRegister
set_option maxRecDepth 20000 in
theorem ggX4_add_X0_hasRoomFor : GoodIn wsX4_add wsX0_hasRoomFor := goodIn_r _ [10, 11, 12, 24, 25] (by decide +kernel) (by decide +kernel)
set_option maxRecDepth 20000 in
theorem gX4_add_X0_hasRoomFor : GoodIn wsX4_add (wsV RX4 51 RX0 yX0_hasRoomFor wsX0_hasRoomFor) := goodIn_app (goodIn_of _ (by decide +kernel)) ggX4_add_X0_hasRoomFor
set_option maxRecDepth 20000 in
theorem ggX4_add_X0_append : GoodIn wsX4_add wsX0_append := goodIn_r _ [16, 12, 11, 24, 25] (by decide +kernel) (by decide +kernel)
set_option maxRecDepth 20000 in
theorem gX4_add_X0_append : GoodIn wsX4_add (wsV RX4 54 RX0 yX0_append wsX0_append) := goodIn_app (goodIn_of _ (by decide +kernel)) ggX4_add_X0_append
theorem dX4_add_0 : decode cX4_add 0 = .ok (.iload_n 1, 1) := by decide +kernel
theorem dX4_add_1 : decode cX4_add 1 = .ok (.invokestatic 47, 3) := by decide +kernel
theorem dX4_add_4 : decode cX4_add 4 = .ok (.ifCond .eq 14, 3) := by decide +kernel
theorem dX4_add_7 : decode cX4_add 7 = .ok (.iload_n 2, 1) := by decide +kernel
theorem dX4_add_8 : decode cX4_add 8 = .ok (.iconst 1, 1) := by decide +kernel
theorem dX4_add_9 : decode cX4_add 9 = .ok (.if_icmp .lt 9, 3) := by decide +kernel
theorem dX4_add_12 : decode cX4_add 12 = .ok (.iload_n 2, 1) := by decide +kernel
theorem dX4_add_13 : decode cX4_add 13 = .ok (.bipush 8, 2) := by decide +kernel
theorem dX4_add_15 : decode cX4_add 15 = .ok (.if_icmp .le 6, 3) := by decide +kernel
theorem dX4_add_18 : decode cX4_add 18 = .ok (.bipush (-2), 2) := by decide +kernel
theorem dX4_add_20 : decode cX4_add 20 = .ok (.ireturn, 1) := by decide +kernel
theorem dX4_add_21 : decode cX4_add 21 = .ok (.aload_n 0, 1) := by decide +kernel
theorem dX4_add_22 : decode cX4_add 22 = .ok (.getfield 11, 3) := by decide +kernel
theorem dX4_add_25 : decode cX4_add 25 = .ok (.iload_n 1, 1) := by decide +kernel
theorem dX4_add_26 : decode cX4_add 26 = .ok (.aaload, 1) := by decide +kernel
theorem dX4_add_27 : decode cX4_add 27 = .ok (.iload_n 2, 1) := by decide +kernel
theorem dX4_add_28 : decode cX4_add 28 = .ok (.invokevirtual 51, 3) := by decide +kernel
theorem dX4_add_31 : decode cX4_add 31 = .ok (.ifCond .ne 6, 3) := by decide +kernel
theorem dX4_add_34 : decode cX4_add 34 = .ok (.bipush (-3), 2) := by decide +kernel
theorem dX4_add_36 : decode cX4_add 36 = .ok (.ireturn, 1) := by decide +kernel
theorem dX4_add_37 : decode cX4_add 37 = .ok (.iconst 0, 1) := by decide +kernel
theorem dX4_add_38 : decode cX4_add 38 = .ok (.istore 5, 2) := by decide +kernel
theorem dX4_add_40 : decode cX4_add 40 = .ok (.iload 5, 2) := by decide +kernel
theorem dX4_add_42 : decode cX4_add 42 = .ok (.iload_n 2, 1) := by decide +kernel
theorem dX4_add_43 : decode cX4_add 43 = .ok (.if_icmp .ge 26, 3) := by decide +kernel
theorem dX4_add_46 : decode cX4_add 46 = .ok (.aload_n 0, 1) := by decide +kernel
theorem dX4_add_47 : decode cX4_add 47 = .ok (.getfield 11, 3) := by decide +kernel
theorem dX4_add_50 : decode cX4_add 50 = .ok (.iload_n 1, 1) := by decide +kernel
theorem dX4_add_51 : decode cX4_add 51 = .ok (.aaload, 1) := by decide +kernel
theorem dX4_add_52 : decode cX4_add 52 = .ok (.lload_n 3, 1) := by decide +kernel
theorem dX4_add_53 : decode cX4_add 53 = .ok (.bipush 8, 2) := by decide +kernel
theorem dX4_add_55 : decode cX4_add 55 = .ok (.iload 5, 2) := by decide +kernel
theorem dX4_add_57 : decode cX4_add 57 = .ok (.imul, 1) := by decide +kernel
theorem dX4_add_58 : decode cX4_add 58 = .ok (.lushr, 1) := by decide +kernel
theorem dX4_add_59 : decode cX4_add 59 = .ok (.l2i, 1) := by decide +kernel
theorem dX4_add_60 : decode cX4_add 60 = .ok (.invokevirtual 54, 3) := by decide +kernel
theorem dX4_add_63 : decode cX4_add 63 = .ok (.iinc 5 1, 3) := by decide +kernel
theorem dX4_add_66 : decode cX4_add 66 = .ok (.goto (-26), 3) := by decide +kernel
theorem dX4_add_69 : decode cX4_add 69 = .ok (.aload_n 0, 1) := by decide +kernel
theorem dX4_add_70 : decode cX4_add 70 = .ok (.getfield 11, 3) := by decide +kernel
theorem dX4_add_73 : decode cX4_add 73 = .ok (.iload_n 1, 1) := by decide +kernel
theorem dX4_add_74 : decode cX4_add 74 = .ok (.aaload, 1) := by decide +kernel
theorem dX4_add_75 : decode cX4_add 75 = .ok (.getfield 57, 3) := by decide +kernel
theorem dX4_add_78 : decode cX4_add 78 = .ok (.ireturn, 1) := by decide +kernel
set_option maxRecDepth 20000 in
theorem ggX4_clear_X4_isRegister : GoodIn wsX4_clear wsX4_isRegister := goodIn_r _ [5] (by decide +kernel) (by decide +kernel)
set_option maxRecDepth 20000 in
theorem gX4_clear_X4_isRegister : GoodIn wsX4_clear (va_wsS RX4 47 yX4_isRegister wsX4_isRegister) := goodIn_app (goodIn_of _ (by decide +kernel)) ggX4_clear_X4_isRegister
set_option maxRecDepth 20000 in
theorem ggX4_clear_X0_keepFirst : GoodIn wsX4_clear wsX0_keepFirst := goodIn_r _ [10, 11, 19, 20] (by decide +kernel) (by decide +kernel)
set_option maxRecDepth 20000 in
theorem gX4_clear_X0_keepFirst : GoodIn wsX4_clear (wsV RX4 61 RX0 yX0_keepFirst wsX0_keepFirst) := goodIn_app (goodIn_of _ (by decide +kernel)) ggX4_clear_X0_keepFirst
theorem dX4_clear_0 : decode cX4_clear 0 = .ok (.iload_n 1, 1) := by decide +kernel
theorem dX4_clear_1 : decode cX4_clear 1 = .ok (.invokestatic 47, 3) := by decide +kernel
theorem dX4_clear_4 : decode cX4_clear 4 = .ok (.ifCond .eq 16, 3) := by decide +kernel
theorem dX4_clear_7 : decode cX4_clear 7 = .ok (.aload_n 0, 1) := by decide +kernel
theorem dX4_clear_8 : decode cX4_clear 8 = .ok (.getfield 11, 3) := by decide +kernel
theorem dX4_clear_11 : decode cX4_clear 11 = .ok (.iload_n 1, 1) := by decide +kernel
theorem dX4_clear_12 : decode cX4_clear 12 = .ok (.aaload, 1) := by decide +kernel
theorem dX4_clear_13 : decode cX4_clear 13 = .ok (.iconst 0, 1) := by decide +kernel
theorem dX4_clear_14 : decode cX4_clear 14 = .ok (.invokevirtual 61, 3) := by decide +kernel
theorem dX4_clear_17 : decode cX4_clear 17 = .ok (.goto 5, 3) := by decide +kernel
theorem dX4_clear_20 : decode cX4_clear 20 = .ok (.bipush (-2), 2) := by decide +kernel
theorem dX4_clear_22 : decode cX4_clear 22 = .ok (.ireturn, 1) := by decide +kernel
set_option maxRecDepth 20000 in
theorem ggX4_size_X4_isRegister : GoodIn wsX4_size wsX4_isRegister := goodIn_r _ [5] (by decide +kernel) (by decide +kernel)
set_option maxRecDepth 20000 in
theorem gX4_size_X4_isRegister : GoodIn wsX4_size (va_wsS RX4 47 yX4_isRegister wsX4_isRegister) := goodIn_app (goodIn_of _ (by decide +kernel)) ggX4_size_X4_isRegister
theorem dX4_size_0 : decode cX4_size 0 = .ok (.iload_n 1, 1) := by decide +kernel
theorem dX4_size_1 : decode cX4_size 1 = .ok (.invokestatic 47, 3) := by decide +kernel
theorem dX4_size_4 : decode cX4_size 4 = .ok (.ifCond .eq 15, 3) := by decide +kernel
theorem dX4_size_7 : decode cX4_size 7 = .ok (.aload_n 0, 1) := by decide +kernel
theorem dX4_size_8 : decode cX4_size 8 = .ok (.getfield 11, 3) := by decide +kernel
theorem dX4_size_11 : decode cX4_size 11 = .ok (.iload_n 1, 1) := by decide +kernel
theorem dX4_size_12 : decode cX4_size 12 = .ok (.aaload, 1) := by decide +kernel
theorem dX4_size_13 : decode cX4_size 13 = .ok (.getfield 57, 3) := by decide +kernel
theorem dX4_size_16 : decode cX4_size 16 = .ok (.goto 5, 3) := by decide +kernel
theorem dX4_size_19 : decode cX4_size 19 = .ok (.bipush (-2), 2) := by decide +kernel
theorem dX4_size_21 : decode cX4_size 21 = .ok (.ireturn, 1) := by decide +kernel
set_option maxRecDepth 20000 in
theorem ggX4_at_X4_isRegister : GoodIn wsX4_at wsX4_isRegister := goodIn_r _ [5] (by decide +kernel) (by decide +kernel)
set_option maxRecDepth 20000 in
theorem gX4_at_X4_isRegister : GoodIn wsX4_at (va_wsS RX4 47 yX4_isRegister wsX4_isRegister) := goodIn_app (goodIn_of _ (by decide +kernel)) ggX4_at_X4_isRegister
set_option maxRecDepth 20000 in
theorem ggX4_at_X0_byteAt : GoodIn wsX4_at wsX0_byteAt := goodIn_r _ [10, 11, 12, 20, 21] (by decide +kernel) (by decide +kernel)
set_option maxRecDepth 20000 in
theorem gX4_at_X0_byteAt : GoodIn wsX4_at (wsV RX4 65 RX0 yX0_byteAt wsX0_byteAt) := goodIn_app (goodIn_of _ (by decide +kernel)) ggX4_at_X0_byteAt
theorem dX4_at_0 : decode cX4_at 0 = .ok (.iload_n 1, 1) := by decide +kernel
theorem dX4_at_1 : decode cX4_at 1 = .ok (.invokestatic 47, 3) := by decide +kernel
theorem dX4_at_4 : decode cX4_at 4 = .ok (.ifCond .eq 16, 3) := by decide +kernel
theorem dX4_at_7 : decode cX4_at 7 = .ok (.aload_n 0, 1) := by decide +kernel
theorem dX4_at_8 : decode cX4_at 8 = .ok (.getfield 11, 3) := by decide +kernel
theorem dX4_at_11 : decode cX4_at 11 = .ok (.iload_n 1, 1) := by decide +kernel
theorem dX4_at_12 : decode cX4_at 12 = .ok (.aaload, 1) := by decide +kernel
theorem dX4_at_13 : decode cX4_at 13 = .ok (.iload_n 2, 1) := by decide +kernel
theorem dX4_at_14 : decode cX4_at 14 = .ok (.invokevirtual 65, 3) := by decide +kernel
theorem dX4_at_17 : decode cX4_at 17 = .ok (.goto 5, 3) := by decide +kernel
theorem dX4_at_20 : decode cX4_at 20 = .ok (.bipush (-2), 2) := by decide +kernel
theorem dX4_at_22 : decode cX4_at 22 = .ok (.ireturn, 1) := by decide +kernel
set_option maxRecDepth 20000 in
theorem ggX4_begin_X4_isHasher : GoodIn wsX4_begin wsX4_isHasher := goodIn_r _ [8] (by decide +kernel) (by decide +kernel)
set_option maxRecDepth 20000 in
theorem gX4_begin_X4_isHasher : GoodIn wsX4_begin (va_wsS RX4 68 yX4_isHasher wsX4_isHasher) := goodIn_app (goodIn_of _ (by decide +kernel)) ggX4_begin_X4_isHasher
set_option maxRecDepth 20000 in
theorem ggX4_begin_X1_restart : GoodIn wsX4_begin wsX1_restart := goodIn_r _ [13, 14, 15, 16, 17, 18, 19, 20, 21, 22, 12, 23, 24, 25, 26, 27, 28, 29, 30, 31, 32, 33, 34, 35, 141, 142, 143, 144, 145, 146, 147, 148, 149, 150, 151, 152, 153] (by decide +kernel) (by decide +kernel)
set_option maxRecDepth 20000 in
theorem gX4_begin_X1_restart : GoodIn wsX4_begin (wsV RX4 76 RX1 yX1_restart wsX1_restart) := goodIn_app (goodIn_of _ (by decide +kernel)) ggX4_begin_X1_restart
set_option maxRecDepth 20000 in
theorem ggX4_begin_X4_isRegister : GoodIn wsX4_begin wsX4_isRegister := goodIn_r _ [38] (by decide +kernel) (by decide +kernel)
set_option maxRecDepth 20000 in
theorem gX4_begin_X4_isRegister : GoodIn wsX4_begin (va_wsS RX4 47 yX4_isRegister wsX4_isRegister) := goodIn_app (goodIn_of _ (by decide +kernel)) ggX4_begin_X4_isRegister
set_option maxRecDepth 20000 in
theorem ggX4_begin_X0_readChain : GoodIn wsX4_begin wsX0_readChain := goodIn_r _ [43, 44, 45, 46, 42, 47, 48, 49, 50, 51, 52, 53, 139, 140] (by decide +kernel) (by decide +kernel)
set_option maxRecDepth 20000 in
theorem gX4_begin_X0_readChain : GoodIn wsX4_begin (wsV RX4 80 RX0 yX0_readChain wsX0_readChain) := goodIn_app (goodIn_of _ (by decide +kernel)) ggX4_begin_X0_readChain
set_option maxRecDepth 20000 in
theorem ggX4_begin_X4_deriveKey : GoodIn wsX4_begin wsX4_deriveKey := goodIn_r _ [57, 58, 2, 4, 9, 10, 11, 12, 13, 14, 15, 16, 17, 18, 19, 20, 21, 22, 23, 24, 25, 26, 27, 28, 29, 30, 31, 32, 33, 34, 35, 59, 60, 61, 62, 63, 49, 50, 42, 51, 52, 53, 64, 65, 66, 67, 68, 69, 70, 71, 72, 73, 74, 75, 76, 77, 78, 79, 80, 81, 82, 83, 84, 85, 86, 87, 88, 89, 90, 91, 92, 93, 94, 95, 96, 97, 98, 99, 100, 101, 102, 103, 104, 105, 106, 107, 108, 109, 110, 111, 112, 113, 114, 115, 116, 117, 118, 119, 120, 121, 122, 123, 124, 125, 126, 127, 128, 129, 130, 131, 132, 133, 134, 135, 136, 137, 138, 139, 140, 141, 142, 143, 144, 145, 146, 147, 148, 149, 150, 151, 152, 153, 154, 155, 156, 157, 158, 159, 160, 161] (by decide +kernel) (by decide +kernel)
set_option maxRecDepth 20000 in
theorem gX4_begin_X4_deriveKey : GoodIn wsX4_begin (wsV RX4 84 RX4 yX4_deriveKey wsX4_deriveKey) := goodIn_app (goodIn_of _ (by decide +kernel)) ggX4_begin_X4_deriveKey
theorem dX4_begin_0 : decode cX4_begin 0 = .ok (.iload_n 1, 1) := by decide +kernel
theorem dX4_begin_1 : decode cX4_begin 1 = .ok (.invokestatic 68, 3) := by decide +kernel
theorem dX4_begin_4 : decode cX4_begin 4 = .ok (.ifCond .ne 6, 3) := by decide +kernel
theorem dX4_begin_7 : decode cX4_begin 7 = .ok (.bipush (-2), 2) := by decide +kernel
theorem dX4_begin_9 : decode cX4_begin 9 = .ok (.ireturn, 1) := by decide +kernel
theorem dX4_begin_10 : decode cX4_begin 10 = .ok (.iload_n 2, 1) := by decide +kernel
theorem dX4_begin_11 : decode cX4_begin 11 = .ok (.ifCond .ne 20, 3) := by decide +kernel
theorem dX4_begin_14 : decode cX4_begin 14 = .ok (.aload_n 0, 1) := by decide +kernel
theorem dX4_begin_15 : decode cX4_begin 15 = .ok (.getfield 17, 3) := by decide +kernel
theorem dX4_begin_18 : decode cX4_begin 18 = .ok (.iload_n 1, 1) := by decide +kernel
theorem dX4_begin_19 : decode cX4_begin 19 = .ok (.aaload, 1) := by decide +kernel
theorem dX4_begin_20 : decode cX4_begin 20 = .ok (.iconst 0, 1) := by decide +kernel
theorem dX4_begin_21 : decode cX4_begin 21 = .ok (.iconst 0, 1) := by decide +kernel
theorem dX4_begin_22 : decode cX4_begin 22 = .ok (.getstatic 71, 3) := by decide +kernel
theorem dX4_begin_25 : decode cX4_begin 25 = .ok (.iconst 0, 1) := by decide +kernel
theorem dX4_begin_26 : decode cX4_begin 26 = .ok (.invokevirtual 76, 3) := by decide +kernel
theorem dX4_begin_29 : decode cX4_begin 29 = .ok (.iconst 0, 1) := by decide +kernel
theorem dX4_begin_30 : decode cX4_begin 30 = .ok (.ireturn, 1) := by decide +kernel
theorem dX4_begin_31 : decode cX4_begin 31 = .ok (.iload_n 3, 1) := by decide +kernel
theorem dX4_begin_32 : decode cX4_begin 32 = .ok (.invokestatic 47, 3) := by decide +kernel
theorem dX4_begin_35 : decode cX4_begin 35 = .ok (.ifCond .ne 6, 3) := by decide +kernel
theorem dX4_begin_38 : decode cX4_begin 38 = .ok (.bipush (-2), 2) := by decide +kernel
theorem dX4_begin_40 : decode cX4_begin 40 = .ok (.ireturn, 1) := by decide +kernel
theorem dX4_begin_41 : decode cX4_begin 41 = .ok (.iload_n 2, 1) := by decide +kernel
theorem dX4_begin_42 : decode cX4_begin 42 = .ok (.iconst 1, 1) := by decide +kernel
theorem dX4_begin_43 : decode cX4_begin 43 = .ok (.if_icmp .ne 50, 3) := by decide +kernel
theorem dX4_begin_46 : decode cX4_begin 46 = .ok (.aload_n 0, 1) := by decide +kernel
theorem dX4_begin_47 : decode cX4_begin 47 = .ok (.getfield 11, 3) := by decide +kernel
theorem dX4_begin_50 : decode cX4_begin 50 = .ok (.iload_n 3, 1) := by decide +kernel
theorem dX4_begin_51 : decode cX4_begin 51 = .ok (.aaload, 1) := by decide +kernel
theorem dX4_begin_52 : decode cX4_begin 52 = .ok (.getfield 57, 3) := by decide +kernel
theorem dX4_begin_55 : decode cX4_begin 55 = .ok (.bipush 32, 2) := by decide +kernel
theorem dX4_begin_57 : decode cX4_begin 57 = .ok (.if_icmp .ne 36, 3) := by decide +kernel
theorem dX4_begin_60 : decode cX4_begin 60 = .ok (.aload_n 0, 1) := by decide +kernel
theorem dX4_begin_61 : decode cX4_begin 61 = .ok (.getfield 11, 3) := by decide +kernel
theorem dX4_begin_64 : decode cX4_begin 64 = .ok (.iload_n 3, 1) := by decide +kernel
theorem dX4_begin_65 : decode cX4_begin 65 = .ok (.aaload, 1) := by decide +kernel
theorem dX4_begin_66 : decode cX4_begin 66 = .ok (.iconst 0, 1) := by decide +kernel
theorem dX4_begin_67 : decode cX4_begin 67 = .ok (.aload_n 0, 1) := by decide +kernel
theorem dX4_begin_68 : decode cX4_begin 68 = .ok (.getfield 43, 3) := by decide +kernel
theorem dX4_begin_71 : decode cX4_begin 71 = .ok (.invokevirtual 80, 3) := by decide +kernel
theorem dX4_begin_74 : decode cX4_begin 74 = .ok (.aload_n 0, 1) := by decide +kernel
theorem dX4_begin_75 : decode cX4_begin 75 = .ok (.getfield 17, 3) := by decide +kernel
theorem dX4_begin_78 : decode cX4_begin 78 = .ok (.iload_n 1, 1) := by decide +kernel
theorem dX4_begin_79 : decode cX4_begin 79 = .ok (.aaload, 1) := by decide +kernel
theorem dX4_begin_80 : decode cX4_begin 80 = .ok (.iconst 1, 1) := by decide +kernel
theorem dX4_begin_81 : decode cX4_begin 81 = .ok (.bipush 16, 2) := by decide +kernel
theorem dX4_begin_83 : decode cX4_begin 83 = .ok (.aload_n 0, 1) := by decide +kernel
theorem dX4_begin_84 : decode cX4_begin 84 = .ok (.getfield 43, 3) := by decide +kernel
theorem dX4_begin_87 : decode cX4_begin 87 = .ok (.iconst 0, 1) := by decide +kernel
theorem dX4_begin_88 : decode cX4_begin 88 = .ok (.invokevirtual 76, 3) := by decide +kernel
theorem dX4_begin_91 : decode cX4_begin 91 = .ok (.iconst 0, 1) := by decide +kernel
theorem dX4_begin_92 : decode cX4_begin 92 = .ok (.ireturn, 1) := by decide +kernel
theorem dX4_begin_93 : decode cX4_begin 93 = .ok (.iload_n 2, 1) := by decide +kernel
theorem dX4_begin_94 : decode cX4_begin 94 = .ok (.iconst 2, 1) := by decide +kernel
theorem dX4_begin_95 : decode cX4_begin 95 = .ok (.if_icmp .ne 32, 3) := by decide +kernel
theorem dX4_begin_98 : decode cX4_begin 98 = .ok (.aload_n 0, 1) := by decide +kernel
theorem dX4_begin_99 : decode cX4_begin 99 = .ok (.aload_n 0, 1) := by decide +kernel
theorem dX4_begin_100 : decode cX4_begin 100 = .ok (.getfield 11, 3) := by decide +kernel
theorem dX4_begin_103 : decode cX4_begin 103 = .ok (.iload_n 3, 1) := by decide +kernel
theorem dX4_begin_104 : decode cX4_begin 104 = .ok (.aaload, 1) := by decide +kernel
theorem dX4_begin_105 : decode cX4_begin 105 = .ok (.invokevirtual 84, 3) := by decide +kernel
theorem dX4_begin_108 : decode cX4_begin 108 = .ok (.aload_n 0, 1) := by decide +kernel
theorem dX4_begin_109 : decode cX4_begin 109 = .ok (.getfield 17, 3) := by decide +kernel
theorem dX4_begin_112 : decode cX4_begin 112 = .ok (.iload_n 1, 1) := by decide +kernel
theorem dX4_begin_113 : decode cX4_begin 113 = .ok (.aaload, 1) := by decide +kernel
theorem dX4_begin_114 : decode cX4_begin 114 = .ok (.iconst 2, 1) := by decide +kernel
theorem dX4_begin_115 : decode cX4_begin 115 = .ok (.bipush 64, 2) := by decide +kernel
theorem dX4_begin_117 : decode cX4_begin 117 = .ok (.aload_n 0, 1) := by decide +kernel
theorem dX4_begin_118 : decode cX4_begin 118 = .ok (.getfield 43, 3) := by decide +kernel
theorem dX4_begin_121 : decode cX4_begin 121 = .ok (.iconst 0, 1) := by decide +kernel
theorem dX4_begin_122 : decode cX4_begin 122 = .ok (.invokevirtual 76, 3) := by decide +kernel
theorem dX4_begin_125 : decode cX4_begin 125 = .ok (.iconst 0, 1) := by decide +kernel
theorem dX4_begin_126 : decode cX4_begin 126 = .ok (.ireturn, 1) := by decide +kernel
theorem dX4_begin_127 : decode cX4_begin 127 = .ok (.bipush (-2), 2) := by decide +kernel
theorem dX4_begin_129 : decode cX4_begin 129 = .ok (.ireturn, 1) := by decide +kernel
set_option maxRecDepth 20000 in
theorem ggX4_take_X4_isHasher : GoodIn wsX4_take wsX4_isHasher := goodIn_r _ [7] (by decide +kernel) (by decide +kernel)
set_option maxRecDepth 20000 in
theorem gX4_take_X4_isHasher : GoodIn wsX4_take (va_wsS RX4 68 yX4_isHasher wsX4_isHasher) := goodIn_app (goodIn_of _ (by decide +kernel)) ggX4_take_X4_isHasher
set_option maxRecDepth 20000 in
theorem ggX4_take_X4_isRegister : GoodIn wsX4_take wsX4_isRegister := goodIn_r _ [10] (by decide +kernel) (by decide +kernel)
set_option maxRecDepth 20000 in
theorem gX4_take_X4_isRegister : GoodIn wsX4_take (va_wsS RX4 47 yX4_isRegister wsX4_isRegister) := goodIn_app (goodIn_of _ (by decide +kernel)) ggX4_take_X4_isRegister
set_option maxRecDepth 20000 in
theorem ggX4_take_X1_absorb : GoodIn wsX4_take wsX1_absorb := goodIn_r _ [15, 16, 17, 18, 19, 20, 21, 22, 23, 24, 25, 14, 26, 27, 28, 29, 30, 31, 32, 33, 34, 35, 36, 37, 38, 39, 40, 41, 42, 43, 44, 45, 46, 47, 48, 49, 50, 51, 52, 53, 54, 55, 56, 57, 58, 59, 60, 61, 62, 63, 64, 65, 66, 67, 68, 69, 70, 71, 72, 73, 74, 75, 76, 77, 78, 79, 80, 81, 82, 83, 84, 85, 86, 87, 88, 89, 90, 91, 92, 93, 94, 95, 96, 97, 98, 99, 100, 101, 109, 110, 111, 112, 113, 114, 115, 116, 117, 118, 119, 120, 121, 122, 123, 124, 125, 126, 127, 128, 129, 130, 131] (by decide +kernel) (by decide +kernel)
set_option maxRecDepth 20000 in
theorem gX4_take_X1_absorb : GoodIn wsX4_take (wsV RX4 92 RX1 yX1_absorb wsX1_absorb) := goodIn_app (goodIn_of _ (by decide +kernel)) ggX4_take_X1_absorb
theorem dX4_take_0 : decode cX4_take 0 = .ok (.iload_n 1, 1) := by decide +kernel
theorem dX4_take_1 : decode cX4_take 1 = .ok (.invokestatic 68, 3) := by decide +kernel
theorem dX4_take_4 : decode cX4_take 4 = .ok (.ifCond .eq 10, 3) := by decide +kernel
theorem dX4_take_7 : decode cX4_take 7 = .ok (.iload_n 2, 1) := by decide +kernel
theorem dX4_take_8 : decode cX4_take 8 = .ok (.invokestatic 47, 3) := by decide +kernel
theorem dX4_take_11 : decode cX4_take 11 = .ok (.ifCond .ne 6, 3) := by decide +kernel
theorem dX4_take_14 : decode cX4_take 14 = .ok (.bipush (-2), 2) := by decide +kernel
theorem dX4_take_16 : decode cX4_take 16 = .ok (.ireturn, 1) := by decide +kernel
theorem dX4_take_17 : decode cX4_take 17 = .ok (.aload_n 0, 1) := by decide +kernel
theorem dX4_take_18 : decode cX4_take 18 = .ok (.getfield 11, 3) := by decide +kernel
theorem dX4_take_21 : decode cX4_take 21 = .ok (.iload_n 2, 1) := by decide +kernel
theorem dX4_take_22 : decode cX4_take 22 = .ok (.aaload, 1) := by decide +kernel
theorem dX4_take_23 : decode cX4_take 23 = .ok (.getfield 57, 3) := by decide +kernel
theorem dX4_take_26 : decode cX4_take 26 = .ok (.ldc 88, 2) := by decide +kernel
theorem dX4_take_28 : decode cX4_take 28 = .ok (.aload_n 0, 1) := by decide +kernel
theorem dX4_take_29 : decode cX4_take 29 = .ok (.getfield 17, 3) := by decide +kernel
theorem dX4_take_32 : decode cX4_take 32 = .ok (.iload_n 1, 1) := by decide +kernel
theorem dX4_take_33 : decode cX4_take 33 = .ok (.aaload, 1) := by decide +kernel
theorem dX4_take_34 : decode cX4_take 34 = .ok (.getfield 89, 3) := by decide +kernel
theorem dX4_take_37 : decode cX4_take 37 = .ok (.isub, 1) := by decide +kernel
theorem dX4_take_38 : decode cX4_take 38 = .ok (.if_icmp .le 6, 3) := by decide +kernel
theorem dX4_take_41 : decode cX4_take 41 = .ok (.bipush (-3), 2) := by decide +kernel
theorem dX4_take_43 : decode cX4_take 43 = .ok (.ireturn, 1) := by decide +kernel
theorem dX4_take_44 : decode cX4_take 44 = .ok (.aload_n 0, 1) := by decide +kernel
theorem dX4_take_45 : decode cX4_take 45 = .ok (.getfield 17, 3) := by decide +kernel
theorem dX4_take_48 : decode cX4_take 48 = .ok (.iload_n 1, 1) := by decide +kernel
theorem dX4_take_49 : decode cX4_take 49 = .ok (.aaload, 1) := by decide +kernel
theorem dX4_take_50 : decode cX4_take 50 = .ok (.aload_n 0, 1) := by decide +kernel
theorem dX4_take_51 : decode cX4_take 51 = .ok (.getfield 11, 3) := by decide +kernel
theorem dX4_take_54 : decode cX4_take 54 = .ok (.iload_n 2, 1) := by decide +kernel
theorem dX4_take_55 : decode cX4_take 55 = .ok (.aaload, 1) := by decide +kernel
theorem dX4_take_56 : decode cX4_take 56 = .ok (.iconst 0, 1) := by decide +kernel
theorem dX4_take_57 : decode cX4_take 57 = .ok (.aload_n 0, 1) := by decide +kernel
theorem dX4_take_58 : decode cX4_take 58 = .ok (.getfield 11, 3) := by decide +kernel
theorem dX4_take_61 : decode cX4_take 61 = .ok (.iload_n 2, 1) := by decide +kernel
theorem dX4_take_62 : decode cX4_take 62 = .ok (.aaload, 1) := by decide +kernel
theorem dX4_take_63 : decode cX4_take 63 = .ok (.getfield 57, 3) := by decide +kernel
theorem dX4_take_66 : decode cX4_take 66 = .ok (.invokevirtual 92, 3) := by decide +kernel
theorem dX4_take_69 : decode cX4_take 69 = .ok (.aload_n 0, 1) := by decide +kernel
theorem dX4_take_70 : decode cX4_take 70 = .ok (.getfield 17, 3) := by decide +kernel
theorem dX4_take_73 : decode cX4_take 73 = .ok (.iload_n 1, 1) := by decide +kernel
theorem dX4_take_74 : decode cX4_take 74 = .ok (.aaload, 1) := by decide +kernel
theorem dX4_take_75 : decode cX4_take 75 = .ok (.getfield 89, 3) := by decide +kernel
theorem dX4_take_78 : decode cX4_take 78 = .ok (.ireturn, 1) := by decide +kernel
set_option maxRecDepth 20000 in
theorem ggX4_fill_X4_isHasher : GoodIn wsX4_fill wsX4_isHasher := goodIn_r _ [6] (by decide +kernel) (by decide +kernel)
set_option maxRecDepth 20000 in
theorem gX4_fill_X4_isHasher : GoodIn wsX4_fill (va_wsS RX4 68 yX4_isHasher wsX4_isHasher) := goodIn_app (goodIn_of _ (by decide +kernel)) ggX4_fill_X4_isHasher
set_option maxRecDepth 20000 in
theorem ggX4_fill_X1_absorbByte : GoodIn wsX4_fill wsX1_absorbByte := goodIn_r _ [11, 12, 13, 14, 15, 16, 17, 18, 10, 19, 20, 21, 22, 23, 24, 25, 26, 27, 28, 29, 30, 31, 32, 33, 34, 35, 36, 37, 38, 39, 40, 41, 42, 43, 44, 45, 46, 47, 48, 49, 50, 51, 52, 53, 54, 55, 56, 57, 58, 59, 60, 61, 62, 63, 64, 65, 66, 67, 68, 69, 70, 71, 72, 73, 74, 75, 76, 77, 78, 79, 80, 81, 82, 83, 84, 85, 86, 94, 95, 96, 97, 98, 99, 100, 101, 102, 103, 104, 105, 106, 107, 108, 109, 110, 111, 112, 113, 114] (by decide +kernel) (by decide +kernel)
set_option maxRecDepth 20000 in
theorem gX4_fill_X1_absorbByte : GoodIn wsX4_fill (wsV RX4 96 RX1 yX1_absorbByte wsX1_absorbByte) := goodIn_app (goodIn_of _ (by decide +kernel)) ggX4_fill_X1_absorbByte
theorem dX4_fill_0 : decode cX4_fill 0 = .ok (.iload_n 1, 1) := by decide +kernel
theorem dX4_fill_1 : decode cX4_fill 1 = .ok (.invokestatic 68, 3) := by decide +kernel
theorem dX4_fill_4 : decode cX4_fill 4 = .ok (.ifCond .eq 14, 3) := by decide +kernel
theorem dX4_fill_7 : decode cX4_fill 7 = .ok (.iload_n 2, 1) := by decide +kernel
theorem dX4_fill_8 : decode cX4_fill 8 = .ok (.ifCond .lt 10, 3) := by decide +kernel
theorem dX4_fill_11 : decode cX4_fill 11 = .ok (.iload_n 2, 1) := by decide +kernel
theorem dX4_fill_12 : decode cX4_fill 12 = .ok (.sipush 5000, 3) := by decide +kernel
theorem dX4_fill_15 : decode cX4_fill 15 = .ok (.if_icmp .le 6, 3) := by decide +kernel
theorem dX4_fill_18 : decode cX4_fill 18 = .ok (.bipush (-2), 2) := by decide +kernel
theorem dX4_fill_20 : decode cX4_fill 20 = .ok (.ireturn, 1) := by decide +kernel
theorem dX4_fill_21 : decode cX4_fill 21 = .ok (.iload_n 2, 1) := by decide +kernel
theorem dX4_fill_22 : decode cX4_fill 22 = .ok (.ldc 88, 2) := by decide +kernel
theorem dX4_fill_24 : decode cX4_fill 24 = .ok (.aload_n 0, 1) := by decide +kernel
theorem dX4_fill_25 : decode cX4_fill 25 = .ok (.getfield 17, 3) := by decide +kernel
theorem dX4_fill_28 : decode cX4_fill 28 = .ok (.iload_n 1, 1) := by decide +kernel
theorem dX4_fill_29 : decode cX4_fill 29 = .ok (.aaload, 1) := by decide +kernel
theorem dX4_fill_30 : decode cX4_fill 30 = .ok (.getfield 89, 3) := by decide +kernel
theorem dX4_fill_33 : decode cX4_fill 33 = .ok (.isub, 1) := by decide +kernel
theorem dX4_fill_34 : decode cX4_fill 34 = .ok (.if_icmp .le 6, 3) := by decide +kernel
theorem dX4_fill_37 : decode cX4_fill 37 = .ok (.bipush (-3), 2) := by decide +kernel
theorem dX4_fill_39 : decode cX4_fill 39 = .ok (.ireturn, 1) := by decide +kernel
theorem dX4_fill_40 : decode cX4_fill 40 = .ok (.iconst 0, 1) := by decide +kernel
theorem dX4_fill_41 : decode cX4_fill 41 = .ok (.istore 5, 2) := by decide +kernel
theorem dX4_fill_43 : decode cX4_fill 43 = .ok (.iload 5, 2) := by decide +kernel
theorem dX4_fill_45 : decode cX4_fill 45 = .ok (.iload_n 2, 1) := by decide +kernel
theorem dX4_fill_46 : decode cX4_fill 46 = .ok (.if_icmp .ge 25, 3) := by decide +kernel
theorem dX4_fill_49 : decode cX4_fill 49 = .ok (.aload_n 0, 1) := by decide +kernel
theorem dX4_fill_50 : decode cX4_fill 50 = .ok (.getfield 17, 3) := by decide +kernel
theorem dX4_fill_53 : decode cX4_fill 53 = .ok (.iload_n 1, 1) := by decide +kernel
theorem dX4_fill_54 : decode cX4_fill 54 = .ok (.aaload, 1) := by decide +kernel
theorem dX4_fill_55 : decode cX4_fill 55 = .ok (.iload_n 3, 1) := by decide +kernel
theorem dX4_fill_56 : decode cX4_fill 56 = .ok (.iload 5, 2) := by decide +kernel
theorem dX4_fill_58 : decode cX4_fill 58 = .ok (.iload 4, 2) := by decide +kernel
theorem dX4_fill_60 : decode cX4_fill 60 = .ok (.imul, 1) := by decide +kernel
theorem dX4_fill_61 : decode cX4_fill 61 = .ok (.iadd, 1) := by decide +kernel
theorem dX4_fill_62 : decode cX4_fill 62 = .ok (.invokevirtual 96, 3) := by decide +kernel
theorem dX4_fill_65 : decode cX4_fill 65 = .ok (.iinc 5 1, 3) := by decide +kernel
theorem dX4_fill_68 : decode cX4_fill 68 = .ok (.goto (-25), 3) := by decide +kernel
theorem dX4_fill_71 : decode cX4_fill 71 = .ok (.aload_n 0, 1) := by decide +kernel
theorem dX4_fill_72 : decode cX4_fill 72 = .ok (.getfield 17, 3) := by decide +kernel
theorem dX4_fill_75 : decode cX4_fill 75 = .ok (.iload_n 1, 1) := by decide +kernel
theorem dX4_fill_76 : decode cX4_fill 76 = .ok (.aaload, 1) := by decide +kernel
theorem dX4_fill_77 : decode cX4_fill 77 = .ok (.getfield 89, 3) := by decide +kernel
theorem dX4_fill_80 : decode cX4_fill 80 = .ok (.ireturn, 1) := by decide +kernel
set_option maxRecDepth 20000 in
theorem ggX4_output_X4_isHasher : GoodIn wsX4_output wsX4_isHasher := goodIn_r _ [7] (by decide +kernel) (by decide +kernel)
set_option maxRecDepth 20000 in
theorem gX4_output_X4_isHasher : GoodIn wsX4_output (va_wsS RX4 68 yX4_isHasher wsX4_isHasher) := goodIn_app (goodIn_of _ (by decide +kernel)) ggX4_output_X4_isHasher
set_option maxRecDepth 20000 in
theorem ggX4_output_X4_isRegister : GoodIn wsX4_output wsX4_isRegister := goodIn_r _ [10] (by decide +kernel) (by decide +kernel)
set_option maxRecDepth 20000 in
theorem gX4_output_X4_isRegister : GoodIn wsX4_output (va_wsS RX4 47 yX4_isRegister wsX4_isRegister) := goodIn_app (goodIn_of _ (by decide +kernel)) ggX4_output_X4_isRegister
set_option maxRecDepth 20000 in
theorem ggX4_output_X1_prepareLast : GoodIn wsX4_output wsX1_prepareLast := goodIn_r _ [15, 16, 17, 18, 19, 20, 21, 22, 23, 14, 24, 25, 26, 27, 28, 29, 30, 31, 32, 33, 34, 35, 36, 37, 38, 39, 40, 41, 42, 43, 44, 45, 46, 47, 48, 49, 50, 51, 52, 53, 54, 55, 56, 57, 58, 59, 60, 61, 62, 63, 64, 65, 66, 99, 100, 101, 102, 103, 104, 105, 106, 107, 108, 109, 110, 111, 112, 113, 114, 115, 116, 117, 118, 119] (by decide +kernel) (by decide +kernel)
set_option maxRecDepth 20000 in
theorem gX4_output_X1_prepareLast : GoodIn wsX4_output (wsV RX4 101 RX1 yX1_prepareLast wsX1_prepareLast) := goodIn_app (goodIn_of _ (by decide +kernel)) ggX4_output_X1_prepareLast
set_option maxRecDepth 20000 in
theorem ggX4_output_X2_writeOutput : GoodIn wsX4_output wsX2_writeOutput := goodIn_r _ [70, 71, 38, 72, 73, 74, 75, 76, 77, 78, 79, 80, 34, 81, 40, 82, 42, 43, 44, 45, 46, 36, 47, 48, 49, 50, 51, 39, 37, 52, 53, 54, 55, 56, 57, 58, 59, 60, 61, 83, 84, 85, 86, 87, 88, 89, 90, 91, 112, 113, 114, 115, 116, 117, 118, 119, 120, 121] (by decide +kernel) (by decide +kernel)
set_option maxRecDepth 20000 in
theorem gX4_output_X2_writeOutput : GoodIn wsX4_output (wsV RX4 108 RX2 yX2_writeOutput wsX2_writeOutput) := goodIn_app (goodIn_of _ (by decide +kernel)) ggX4_output_X2_writeOutput
theorem dX4_output_0 : decode cX4_output 0 = .ok (.iload_n 1, 1) := by decide +kernel
theorem dX4_output_1 : decode cX4_output 1 = .ok (.invokestatic 68, 3) := by decide +kernel
theorem dX4_output_4 : decode cX4_output 4 = .ok (.ifCond .eq 21, 3) := by decide +kernel
theorem dX4_output_7 : decode cX4_output 7 = .ok (.iload_n 2, 1) := by decide +kernel
theorem dX4_output_8 : decode cX4_output 8 = .ok (.invokestatic 47, 3) := by decide +kernel
theorem dX4_output_11 : decode cX4_output 11 = .ok (.ifCond .eq 14, 3) := by decide +kernel
theorem dX4_output_14 : decode cX4_output 14 = .ok (.iload_n 3, 1) := by decide +kernel
theorem dX4_output_15 : decode cX4_output 15 = .ok (.ifCond .lt 10, 3) := by decide +kernel
theorem dX4_output_18 : decode cX4_output 18 = .ok (.iload_n 3, 1) := by decide +kernel
theorem dX4_output_19 : decode cX4_output 19 = .ok (.sipush 200, 3) := by decide +kernel
theorem dX4_output_22 : decode cX4_output 22 = .ok (.if_icmp .le 6, 3) := by decide +kernel
theorem dX4_output_25 : decode cX4_output 25 = .ok (.bipush (-2), 2) := by decide +kernel
theorem dX4_output_27 : decode cX4_output 27 = .ok (.ireturn, 1) := by decide +kernel
theorem dX4_output_28 : decode cX4_output 28 = .ok (.lload 4, 2) := by decide +kernel
theorem dX4_output_30 : decode cX4_output 30 = .ok (.lconst 0, 1) := by decide +kernel
theorem dX4_output_31 : decode cX4_output 31 = .ok (.lcmp, 1) := by decide +kernel
theorem dX4_output_32 : decode cX4_output 32 = .ok (.ifCond .lt 12, 3) := by decide +kernel
theorem dX4_output_35 : decode cX4_output 35 = .ok (.lload 4, 2) := by decide +kernel
theorem dX4_output_37 : decode cX4_output 37 = .ok (.ldc2_w 99, 3) := by decide +kernel
theorem dX4_output_40 : decode cX4_output 40 = .ok (.lcmp, 1) := by decide +kernel
theorem dX4_output_41 : decode cX4_output 41 = .ok (.ifCond .le 6, 3) := by decide +kernel
theorem dX4_output_44 : decode cX4_output 44 = .ok (.bipush (-2), 2) := by decide +kernel
theorem dX4_output_46 : decode cX4_output 46 = .ok (.ireturn, 1) := by decide +kernel
theorem dX4_output_47 : decode cX4_output 47 = .ok (.aload_n 0, 1) := by decide +kernel
theorem dX4_output_48 : decode cX4_output 48 = .ok (.getfield 17, 3) := by decide +kernel
theorem dX4_output_51 : decode cX4_output 51 = .ok (.iload_n 1, 1) := by decide +kernel
theorem dX4_output_52 : decode cX4_output 52 = .ok (.aaload, 1) := by decide +kernel
theorem dX4_output_53 : decode cX4_output 53 = .ok (.invokevirtual 101, 3) := by decide +kernel
theorem dX4_output_56 : decode cX4_output 56 = .ok (.aload_n 0, 1) := by decide +kernel
theorem dX4_output_57 : decode cX4_output 57 = .ok (.getfield 17, 3) := by decide +kernel
theorem dX4_output_60 : decode cX4_output 60 = .ok (.iload_n 1, 1) := by decide +kernel
theorem dX4_output_61 : decode cX4_output 61 = .ok (.aaload, 1) := by decide +kernel
theorem dX4_output_62 : decode cX4_output 62 = .ok (.getfield 104, 3) := by decide +kernel
theorem dX4_output_65 : decode cX4_output 65 = .ok (.aload_n 0, 1) := by decide +kernel
theorem dX4_output_66 : decode cX4_output 66 = .ok (.getfield 11, 3) := by decide +kernel
theorem dX4_output_69 : decode cX4_output 69 = .ok (.iload_n 2, 1) := by decide +kernel
theorem dX4_output_70 : decode cX4_output 70 = .ok (.aaload, 1) := by decide +kernel
theorem dX4_output_71 : decode cX4_output 71 = .ok (.iload_n 3, 1) := by decide +kernel
theorem dX4_output_72 : decode cX4_output 72 = .ok (.lload 4, 2) := by decide +kernel
theorem dX4_output_74 : decode cX4_output 74 = .ok (.invokevirtual 108, 3) := by decide +kernel
theorem dX4_output_77 : decode cX4_output 77 = .ok (.iload_n 3, 1) := by decide +kernel
theorem dX4_output_78 : decode cX4_output 78 = .ok (.ireturn, 1) := by decide +kernel
set_option maxRecDepth 20000 in
theorem ggX4_copy_X4_isHasher : GoodIn wsX4_copy wsX4_isHasher := goodIn_r _ [5] (by decide +kernel) (by decide +kernel)
set_option maxRecDepth 20000 in
theorem gX4_copy_X4_isHasher : GoodIn wsX4_copy (va_wsS RX4 68 yX4_isHasher wsX4_isHasher) := goodIn_app (goodIn_of _ (by decide +kernel)) ggX4_copy_X4_isHasher
set_option maxRecDepth 20000 in
theorem ggX4_copy_X1_becomeAs : GoodIn wsX4_copy wsX1_becomeAs := goodIn_r _ [10, 11, 12, 13, 14, 15, 16, 17, 18, 19, 20, 21, 22, 23, 24, 9, 25, 33, 34, 35, 36, 37, 38, 39, 40, 41, 42, 43, 44, 45] (by decide +kernel) (by decide +kernel)
set_option maxRecDepth 20000 in
theorem gX4_copy_X1_becomeAs : GoodIn wsX4_copy (wsV RX4 112 RX1 yX1_becomeAs wsX1_becomeAs) := goodIn_app (goodIn_of _ (by decide +kernel)) ggX4_copy_X1_becomeAs
theorem dX4_copy_0 : decode cX4_copy 0 = .ok (.iload_n 1, 1) := by decide +kernel
theorem dX4_copy_1 : decode cX4_copy 1 = .ok (.invokestatic 68, 3) := by decide +kernel
theorem dX4_copy_4 : decode cX4_copy 4 = .ok (.ifCond .eq 10, 3) := by decide +kernel
theorem dX4_copy_7 : decode cX4_copy 7 = .ok (.iload_n 2, 1) := by decide +kernel
theorem dX4_copy_8 : decode cX4_copy 8 = .ok (.invokestatic 68, 3) := by decide +kernel
theorem dX4_copy_11 : decode cX4_copy 11 = .ok (.ifCond .ne 6, 3) := by decide +kernel
theorem dX4_copy_14 : decode cX4_copy 14 = .ok (.bipush (-2), 2) := by decide +kernel
theorem dX4_copy_16 : decode cX4_copy 16 = .ok (.ireturn, 1) := by decide +kernel
theorem dX4_copy_17 : decode cX4_copy 17 = .ok (.aload_n 0, 1) := by decide +kernel
theorem dX4_copy_18 : decode cX4_copy 18 = .ok (.getfield 17, 3) := by decide +kernel
theorem dX4_copy_21 : decode cX4_copy 21 = .ok (.iload_n 2, 1) := by decide +kernel
theorem dX4_copy_22 : decode cX4_copy 22 = .ok (.aaload, 1) := by decide +kernel
theorem dX4_copy_23 : decode cX4_copy 23 = .ok (.aload_n 0, 1) := by decide +kernel
theorem dX4_copy_24 : decode cX4_copy 24 = .ok (.getfield 17, 3) := by decide +kernel
theorem dX4_copy_27 : decode cX4_copy 27 = .ok (.iload_n 1, 1) := by decide +kernel
theorem dX4_copy_28 : decode cX4_copy 28 = .ok (.aaload, 1) := by decide +kernel
theorem dX4_copy_29 : decode cX4_copy 29 = .ok (.invokevirtual 112, 3) := by decide +kernel
theorem dX4_copy_32 : decode cX4_copy 32 = .ok (.aload_n 0, 1) := by decide +kernel
theorem dX4_copy_33 : decode cX4_copy 33 = .ok (.getfield 17, 3) := by decide +kernel
theorem dX4_copy_36 : decode cX4_copy 36 = .ok (.iload_n 2, 1) := by decide +kernel
theorem dX4_copy_37 : decode cX4_copy 37 = .ok (.aaload, 1) := by decide +kernel
theorem dX4_copy_38 : decode cX4_copy 38 = .ok (.getfield 89, 3) := by decide +kernel
theorem dX4_copy_41 : decode cX4_copy 41 = .ok (.ireturn, 1) := by decide +kernel
set_option maxRecDepth 20000 in
theorem ggX4_told_X4_isHasher : GoodIn wsX4_told wsX4_isHasher := goodIn_r _ [5] (by decide +kernel) (by decide +kernel)
set_option maxRecDepth 20000 in
theorem gX4_told_X4_isHasher : GoodIn wsX4_told (va_wsS RX4 68 yX4_isHasher wsX4_isHasher) := goodIn_app (goodIn_of _ (by decide +kernel)) ggX4_told_X4_isHasher
set_option maxRecDepth 20000 in
theorem ggX4_told_X1_inChunk : GoodIn wsX4_told wsX1_inChunk := goodIn_r _ [10, 11, 12, 20, 21, 22, 23, 24, 25, 26, 27, 28, 29, 30, 31, 32] (by decide +kernel) (by decide +kernel)
set_option maxRecDepth 20000 in
theorem gX4_told_X1_inChunk : GoodIn wsX4_told (wsV RX4 125 RX1 yX1_inChunk wsX1_inChunk) := goodIn_app (goodIn_of _ (by decide +kernel)) ggX4_told_X1_inChunk
theorem dX4_told_0 : decode cX4_told 0 = .ok (.iload_n 1, 1) := by decide +kernel
theorem dX4_told_1 : decode cX4_told 1 = .ok (.invokestatic 68, 3) := by decide +kernel
theorem dX4_told_4 : decode cX4_told 4 = .ok (.ifCond .ne 6, 3) := by decide +kernel
theorem dX4_told_7 : decode cX4_told 7 = .ok (.bipush (-2), 2) := by decide +kernel
theorem dX4_told_9 : decode cX4_told 9 = .ok (.ireturn, 1) := by decide +kernel
theorem dX4_told_10 : decode cX4_told 10 = .ok (.iload_n 2, 1) := by decide +kernel
theorem dX4_told_11 : decode cX4_told 11 = .ok (.tableswitch 83 0 4 #[33, 43, 53, 63, 73], 33) := by decide +kernel
theorem dX4_told_44 : decode cX4_told 44 = .ok (.aload_n 0, 1) := by decide +kernel
theorem dX4_told_45 : decode cX4_told 45 = .ok (.getfield 17, 3) := by decide +kernel
theorem dX4_told_48 : decode cX4_told 48 = .ok (.iload_n 1, 1) := by decide +kernel
theorem dX4_told_49 : decode cX4_told 49 = .ok (.aaload, 1) := by decide +kernel
theorem dX4_told_50 : decode cX4_told 50 = .ok (.getfield 116, 3) := by decide +kernel
theorem dX4_told_53 : decode cX4_told 53 = .ok (.ireturn, 1) := by decide +kernel
theorem dX4_told_54 : decode cX4_told 54 = .ok (.aload_n 0, 1) := by decide +kernel
theorem dX4_told_55 : decode cX4_told 55 = .ok (.getfield 17, 3) := by decide +kernel
theorem dX4_told_58 : decode cX4_told 58 = .ok (.iload_n 1, 1) := by decide +kernel
theorem dX4_told_59 : decode cX4_told 59 = .ok (.aaload, 1) := by decide +kernel
theorem dX4_told_60 : decode cX4_told 60 = .ok (.getfield 89, 3) := by decide +kernel
theorem dX4_told_63 : decode cX4_told 63 = .ok (.ireturn, 1) := by decide +kernel
theorem dX4_told_64 : decode cX4_told 64 = .ok (.aload_n 0, 1) := by decide +kernel
theorem dX4_told_65 : decode cX4_told 65 = .ok (.getfield 17, 3) := by decide +kernel
theorem dX4_told_68 : decode cX4_told 68 = .ok (.iload_n 1, 1) := by decide +kernel
theorem dX4_told_69 : decode cX4_told 69 = .ok (.aaload, 1) := by decide +kernel
theorem dX4_told_70 : decode cX4_told 70 = .ok (.getfield 119, 3) := by decide +kernel
theorem dX4_told_73 : decode cX4_told 73 = .ok (.ireturn, 1) := by decide +kernel
theorem dX4_told_74 : decode cX4_told 74 = .ok (.aload_n 0, 1) := by decide +kernel
theorem dX4_told_75 : decode cX4_told 75 = .ok (.getfield 17, 3) := by decide +kernel
theorem dX4_told_78 : decode cX4_told 78 = .ok (.iload_n 1, 1) := by decide +kernel
theorem dX4_told_79 : decode cX4_told 79 = .ok (.aaload, 1) := by decide +kernel
theorem dX4_told_80 : decode cX4_told 80 = .ok (.getfield 122, 3) := by decide +kernel
theorem dX4_told_83 : decode cX4_told 83 = .ok (.ireturn, 1) := by decide +kernel
theorem dX4_told_84 : decode cX4_told 84 = .ok (.aload_n 0, 1) := by decide +kernel
theorem dX4_told_85 : decode cX4_told 85 = .ok (.getfield 17, 3) := by decide +kernel
theorem dX4_told_88 : decode cX4_told 88 = .ok (.iload_n 1, 1) := by decide +kernel
theorem dX4_told_89 : decode cX4_told 89 = .ok (.aaload, 1) := by decide +kernel
theorem dX4_told_90 : decode cX4_told 90 = .ok (.invokevirtual 125, 3) := by decide +kernel
theorem dX4_told_93 : decode cX4_told 93 = .ok (.ireturn, 1) := by decide +kernel
theorem dX4_told_94 : decode cX4_told 94 = .ok (.bipush (-2), 2) := by decide +kernel
theorem dX4_told_96 : decode cX4_told 96 = .ok (.ireturn, 1) := by decide +kernel
set_option maxRecDepth 20000 in
theorem ggX4_chain_X4_isHasher : GoodIn wsX4_chain wsX4_isHasher := goodIn_r _ [5] (by decide +kernel) (by decide +kernel)
set_option maxRecDepth 20000 in
theorem gX4_chain_X4_isHasher : GoodIn wsX4_chain (va_wsS RX4 68 yX4_isHasher wsX4_isHasher) := goodIn_app (goodIn_of _ (by decide +kernel)) ggX4_chain_X4_isHasher
set_option maxRecDepth 20000 in
theorem ggX4_chain_X1_stackWord : GoodIn wsX4_chain wsX1_stackWord := goodIn_r _ [10, 11, 12, 20, 21, 22, 23, 24, 25, 26, 27, 28, 29, 30, 31, 32] (by decide +kernel) (by decide +kernel)
set_option maxRecDepth 20000 in
theorem gX4_chain_X1_stackWord : GoodIn wsX4_chain (wsV RX4 129 RX1 yX1_stackWord wsX1_stackWord) := goodIn_app (goodIn_of _ (by decide +kernel)) ggX4_chain_X1_stackWord
theorem dX4_chain_0 : decode cX4_chain 0 = .ok (.iload_n 1, 1) := by decide +kernel
theorem dX4_chain_1 : decode cX4_chain 1 = .ok (.invokestatic 68, 3) := by decide +kernel
theorem dX4_chain_4 : decode cX4_chain 4 = .ok (.ifCond .eq 17, 3) := by decide +kernel
theorem dX4_chain_7 : decode cX4_chain 7 = .ok (.aload_n 0, 1) := by decide +kernel
theorem dX4_chain_8 : decode cX4_chain 8 = .ok (.getfield 17, 3) := by decide +kernel
theorem dX4_chain_11 : decode cX4_chain 11 = .ok (.iload_n 1, 1) := by decide +kernel
theorem dX4_chain_12 : decode cX4_chain 12 = .ok (.aaload, 1) := by decide +kernel
theorem dX4_chain_13 : decode cX4_chain 13 = .ok (.iload_n 2, 1) := by decide +kernel
theorem dX4_chain_14 : decode cX4_chain 14 = .ok (.iload_n 3, 1) := by decide +kernel
theorem dX4_chain_15 : decode cX4_chain 15 = .ok (.invokevirtual 129, 3) := by decide +kernel
theorem dX4_chain_18 : decode cX4_chain 18 = .ok (.goto 5, 3) := by decide +kernel
theorem dX4_chain_21 : decode cX4_chain 21 = .ok (.bipush (-2), 2) := by decide +kernel
theorem dX4_chain_23 : decode cX4_chain 23 = .ok (.ireturn, 1) := by decide +kernel
set_option maxRecDepth 20000 in
theorem ggX4_grow_X0_hasRoomFor : GoodIn wsX4_grow wsX0_hasRoomFor := goodIn_r _ [6, 7, 8, 20, 21] (by decide +kernel) (by decide +kernel)
set_option maxRecDepth 20000 in
theorem gX4_grow_X0_hasRoomFor : GoodIn wsX4_grow (wsV RX4 51 RX0 yX0_hasRoomFor wsX0_hasRoomFor) := goodIn_app (goodIn_of _ (by decide +kernel)) ggX4_grow_X0_hasRoomFor
set_option maxRecDepth 20000 in
theorem ggX4_grow_X0_append : GoodIn wsX4_grow wsX0_append := goodIn_r _ [12, 8, 7, 20, 21] (by decide +kernel) (by decide +kernel)
set_option maxRecDepth 20000 in
theorem gX4_grow_X0_append : GoodIn wsX4_grow (wsV RX4 54 RX0 yX0_append wsX0_append) := goodIn_app (goodIn_of _ (by decide +kernel)) ggX4_grow_X0_append
theorem dX4_grow_0 : decode cX4_grow 0 = .ok (.iload_n 1, 1) := by decide +kernel
theorem dX4_grow_1 : decode cX4_grow 1 = .ok (.iconst 1, 1) := by decide +kernel
theorem dX4_grow_2 : decode cX4_grow 2 = .ok (.if_icmp .lt 10, 3) := by decide +kernel
theorem dX4_grow_5 : decode cX4_grow 5 = .ok (.iload_n 1, 1) := by decide +kernel
theorem dX4_grow_6 : decode cX4_grow 6 = .ok (.sipush 5000, 3) := by decide +kernel
theorem dX4_grow_9 : decode cX4_grow 9 = .ok (.if_icmp .le 6, 3) := by decide +kernel
theorem dX4_grow_12 : decode cX4_grow 12 = .ok (.bipush (-2), 2) := by decide +kernel
theorem dX4_grow_14 : decode cX4_grow 14 = .ok (.ireturn, 1) := by decide +kernel
theorem dX4_grow_15 : decode cX4_grow 15 = .ok (.aload_n 0, 1) := by decide +kernel
theorem dX4_grow_16 : decode cX4_grow 16 = .ok (.getfield 24, 3) := by decide +kernel
theorem dX4_grow_19 : decode cX4_grow 19 = .ok (.iload_n 1, 1) := by decide +kernel
theorem dX4_grow_20 : decode cX4_grow 20 = .ok (.invokevirtual 51, 3) := by decide +kernel
theorem dX4_grow_23 : decode cX4_grow 23 = .ok (.ifCond .ne 6, 3) := by decide +kernel
theorem dX4_grow_26 : decode cX4_grow 26 = .ok (.bipush (-3), 2) := by decide +kernel
theorem dX4_grow_28 : decode cX4_grow 28 = .ok (.ireturn, 1) := by decide +kernel
theorem dX4_grow_29 : decode cX4_grow 29 = .ok (.iconst 0, 1) := by decide +kernel
theorem dX4_grow_30 : decode cX4_grow 30 = .ok (.istore 4, 2) := by decide +kernel
theorem dX4_grow_32 : decode cX4_grow 32 = .ok (.iload 4, 2) := by decide +kernel
theorem dX4_grow_34 : decode cX4_grow 34 = .ok (.iload_n 1, 1) := by decide +kernel
theorem dX4_grow_35 : decode cX4_grow 35 = .ok (.if_icmp .ge 22, 3) := by decide +kernel
theorem dX4_grow_38 : decode cX4_grow 38 = .ok (.aload_n 0, 1) := by decide +kernel
theorem dX4_grow_39 : decode cX4_grow 39 = .ok (.getfield 24, 3) := by decide +kernel
theorem dX4_grow_42 : decode cX4_grow 42 = .ok (.iload_n 2, 1) := by decide +kernel
theorem dX4_grow_43 : decode cX4_grow 43 = .ok (.iload 4, 2) := by decide +kernel
theorem dX4_grow_45 : decode cX4_grow 45 = .ok (.iload_n 3, 1) := by decide +kernel
theorem dX4_grow_46 : decode cX4_grow 46 = .ok (.imul, 1) := by decide +kernel
theorem dX4_grow_47 : decode cX4_grow 47 = .ok (.iadd, 1) := by decide +kernel
theorem dX4_grow_48 : decode cX4_grow 48 = .ok (.invokevirtual 54, 3) := by decide +kernel
theorem dX4_grow_51 : decode cX4_grow 51 = .ok (.iinc 4 1, 3) := by decide +kernel
theorem dX4_grow_54 : decode cX4_grow 54 = .ok (.goto (-22), 3) := by decide +kernel
theorem dX4_grow_57 : decode cX4_grow 57 = .ok (.aload_n 0, 1) := by decide +kernel
theorem dX4_grow_58 : decode cX4_grow 58 = .ok (.getfield 24, 3) := by decide +kernel
theorem dX4_grow_61 : decode cX4_grow 61 = .ok (.getfield 57, 3) := by decide +kernel
theorem dX4_grow_64 : decode cX4_grow 64 = .ok (.ireturn, 1) := by decide +kernel
set_option maxRecDepth 20000 in
theorem ggX4_spoil_X0_change : GoodIn wsX4_spoil wsX0_change := goodIn_r _ [6, 7, 8, 16, 17] (by decide +kernel) (by decide +kernel)
set_option maxRecDepth 20000 in
theorem gX4_spoil_X0_change : GoodIn wsX4_spoil (wsV RX4 133 RX0 yX0_change wsX0_change) := goodIn_app (goodIn_of _ (by decide +kernel)) ggX4_spoil_X0_change
theorem dX4_spoil_0 : decode cX4_spoil 0 = .ok (.aload_n 0, 1) := by decide +kernel
theorem dX4_spoil_1 : decode cX4_spoil 1 = .ok (.getfield 24, 3) := by decide +kernel
theorem dX4_spoil_4 : decode cX4_spoil 4 = .ok (.iload_n 1, 1) := by decide +kernel
theorem dX4_spoil_5 : decode cX4_spoil 5 = .ok (.iload_n 2, 1) := by decide +kernel
theorem dX4_spoil_6 : decode cX4_spoil 6 = .ok (.invokevirtual 133, 3) := by decide +kernel
theorem dX4_spoil_9 : decode cX4_spoil 9 = .ok (.ireturn, 1) := by decide +kernel
set_option maxRecDepth 20000 in
theorem ggX4_shorten_X0_keepFirst : GoodIn wsX4_shorten wsX0_keepFirst := goodIn_r _ [6, 7, 15, 16] (by decide +kernel) (by decide +kernel)
set_option maxRecDepth 20000 in
theorem gX4_shorten_X0_keepFirst : GoodIn wsX4_shorten (wsV RX4 61 RX0 yX0_keepFirst wsX0_keepFirst) := goodIn_app (goodIn_of _ (by decide +kernel)) ggX4_shorten_X0_keepFirst
theorem dX4_shorten_0 : decode cX4_shorten 0 = .ok (.aload_n 0, 1) := by decide +kernel
theorem dX4_shorten_1 : decode cX4_shorten 1 = .ok (.getfield 24, 3) := by decide +kernel
theorem dX4_shorten_4 : decode cX4_shorten 4 = .ok (.iload_n 1, 1) := by decide +kernel
theorem dX4_shorten_5 : decode cX4_shorten 5 = .ok (.invokevirtual 61, 3) := by decide +kernel
theorem dX4_shorten_8 : decode cX4_shorten 8 = .ok (.ireturn, 1) := by decide +kernel
set_option maxRecDepth 20000 in
theorem ggX4_root_X4_isRegister : GoodIn wsX4_root wsX4_isRegister := goodIn_r _ [7] (by decide +kernel) (by decide +kernel)
set_option maxRecDepth 20000 in
theorem gX4_root_X4_isRegister : GoodIn wsX4_root (va_wsS RX4 47 yX4_isRegister wsX4_isRegister) := goodIn_app (goodIn_of _ (by decide +kernel)) ggX4_root_X4_isRegister
set_option maxRecDepth 20000 in
theorem ggX4_root_X4_prepareTree : GoodIn wsX4_root wsX4_prepareTree := goodIn_r _ [11, 2, 12, 13, 14, 15, 16, 17, 18, 19, 20, 21, 22, 23, 24, 25, 26, 27, 28, 29, 30, 31, 32, 33, 34, 35, 36, 37, 38, 39, 40, 41, 42, 43, 44, 45, 46, 47, 48, 49, 50, 51, 52, 53, 54, 55, 56, 57, 58, 59, 60, 61, 62, 63, 64, 65, 66, 67, 68, 69, 70, 71, 72, 73, 74, 75, 76, 77, 78, 79, 80, 81, 82, 83, 84, 85, 86, 87, 88, 89, 90, 91, 92, 93, 94, 95, 96, 97, 98, 99, 100, 101, 102, 103, 104, 105, 106, 107, 108, 109, 110, 111, 112, 135, 136, 137, 138, 139, 140, 141, 144, 145, 146, 147, 148, 149, 150, 151, 152, 153, 154, 155, 156, 142, 143, 157, 158, 159, 160, 161, 162, 163, 164] (by decide +kernel) (by decide +kernel)
set_option maxRecDepth 20000 in
theorem gX4_root_X4_prepareTree : GoodIn wsX4_root (wsV RX4 136 RX4 yX4_prepareTree wsX4_prepareTree) := goodIn_app (goodIn_of _ (by decide +kernel)) ggX4_root_X4_prepareTree
set_option maxRecDepth 20000 in
theorem ggX4_root_X2_writeOutput : GoodIn wsX4_root wsX2_writeOutput := goodIn_r _ [116, 117, 72, 118, 119, 120, 47, 121, 49, 122, 123, 124, 68, 125, 74, 126, 76, 77, 78, 79, 80, 70, 81, 82, 83, 84, 85, 73, 71, 86, 87, 88, 89, 90, 91, 92, 93, 94, 95, 127, 128, 129, 130, 131, 132, 133, 134, 50, 157, 158, 159, 160, 161, 162, 163, 164, 142, 143] (by decide +kernel) (by decide +kernel)
set_option maxRecDepth 20000 in
theorem gX4_root_X2_writeOutput : GoodIn wsX4_root (wsV RX4 108 RX2 yX2_writeOutput wsX2_writeOutput) := goodIn_app (goodIn_of _ (by decide +kernel)) ggX4_root_X2_writeOutput
theorem dX4_root_0 : decode cX4_root 0 = .ok (.iload_n 1, 1) := by decide +kernel
theorem dX4_root_1 : decode cX4_root 1 = .ok (.invokestatic 47, 3) := by decide +kernel
theorem dX4_root_4 : decode cX4_root 4 = .ok (.ifCond .ne 6, 3) := by decide +kernel
theorem dX4_root_7 : decode cX4_root 7 = .ok (.bipush (-2), 2) := by decide +kernel
theorem dX4_root_9 : decode cX4_root 9 = .ok (.ireturn, 1) := by decide +kernel
theorem dX4_root_10 : decode cX4_root 10 = .ok (.aload_n 0, 1) := by decide +kernel
theorem dX4_root_11 : decode cX4_root 11 = .ok (.aload_n 0, 1) := by decide +kernel
theorem dX4_root_12 : decode cX4_root 12 = .ok (.getfield 24, 3) := by decide +kernel
theorem dX4_root_15 : decode cX4_root 15 = .ok (.iconst 0, 1) := by decide +kernel
theorem dX4_root_16 : decode cX4_root 16 = .ok (.aload_n 0, 1) := by decide +kernel
theorem dX4_root_17 : decode cX4_root 17 = .ok (.getfield 24, 3) := by decide +kernel
theorem dX4_root_20 : decode cX4_root 20 = .ok (.getfield 57, 3) := by decide +kernel
theorem dX4_root_23 : decode cX4_root 23 = .ok (.iconst 0, 1) := by decide +kernel
theorem dX4_root_24 : decode cX4_root 24 = .ok (.invokevirtual 136, 3) := by decide +kernel
theorem dX4_root_27 : decode cX4_root 27 = .ok (.aload_n 0, 1) := by decide +kernel
theorem dX4_root_28 : decode cX4_root 28 = .ok (.getfield 32, 3) := by decide +kernel
theorem dX4_root_31 : decode cX4_root 31 = .ok (.getfield 104, 3) := by decide +kernel
theorem dX4_root_34 : decode cX4_root 34 = .ok (.aload_n 0, 1) := by decide +kernel
theorem dX4_root_35 : decode cX4_root 35 = .ok (.getfield 11, 3) := by decide +kernel
theorem dX4_root_38 : decode cX4_root 38 = .ok (.iload_n 1, 1) := by decide +kernel
theorem dX4_root_39 : decode cX4_root 39 = .ok (.aaload, 1) := by decide +kernel
theorem dX4_root_40 : decode cX4_root 40 = .ok (.bipush 32, 2) := by decide +kernel
theorem dX4_root_42 : decode cX4_root 42 = .ok (.lconst 0, 1) := by decide +kernel
theorem dX4_root_43 : decode cX4_root 43 = .ok (.invokevirtual 108, 3) := by decide +kernel
theorem dX4_root_46 : decode cX4_root 46 = .ok (.aload_n 0, 1) := by decide +kernel
theorem dX4_root_47 : decode cX4_root 47 = .ok (.getfield 24, 3) := by decide +kernel
theorem dX4_root_50 : decode cX4_root 50 = .ok (.getfield 57, 3) := by decide +kernel
theorem dX4_root_53 : decode cX4_root 53 = .ok (.ireturn, 1) := by decide +kernel
set_option maxRecDepth 20000 in
theorem ggX4_prove_X4_hasChunk : GoodIn wsX4_prove wsX4_hasChunk := goodIn_r _ [13, 14, 15, 12, 16] (by decide +kernel) (by decide +kernel)
set_option maxRecDepth 20000 in
theorem gX4_prove_X4_hasChunk : GoodIn wsX4_prove (va_wsS RX4 140 yX4_hasChunk wsX4_hasChunk) := goodIn_app (goodIn_of _ (by decide +kernel)) ggX4_prove_X4_hasChunk
set_option maxRecDepth 20000 in
theorem ggX4_prove_X0_keepFirst : GoodIn wsX4_prove wsX0_keepFirst := goodIn_r _ [21, 22, 162, 163] (by decide +kernel) (by decide +kernel)
set_option maxRecDepth 20000 in
theorem gX4_prove_X0_keepFirst : GoodIn wsX4_prove (wsV RX4 61 RX0 yX0_keepFirst wsX0_keepFirst) := goodIn_app (goodIn_of _ (by decide +kernel)) ggX4_prove_X0_keepFirst
set_option maxRecDepth 20000 in
theorem ggX4_prove_X4_chunkLength : GoodIn wsX4_prove wsX4_chunkLength := goodIn_r _ [25, 4, 5, 6, 7] (by decide +kernel) (by decide +kernel)
set_option maxRecDepth 20000 in
theorem gX4_prove_X4_chunkLength : GoodIn wsX4_prove (va_wsS RX4 144 yX4_chunkLength wsX4_chunkLength) := goodIn_app (goodIn_of _ (by decide +kernel)) ggX4_prove_X4_chunkLength
set_option maxRecDepth 20000 in
theorem ggX4_prove_X0_appendFrom : GoodIn wsX4_prove wsX0_appendFrom := goodIn_r _ [29, 30, 31, 32, 20, 33, 22, 34, 35, 36, 37, 38, 162, 163] (by decide +kernel) (by decide +kernel)
set_option maxRecDepth 20000 in
theorem gX4_prove_X0_appendFrom : GoodIn wsX4_prove (wsV RX4 147 RX0 yX0_appendFrom wsX0_appendFrom) := goodIn_app (goodIn_of _ (by decide +kernel)) ggX4_prove_X0_appendFrom
set_option maxRecDepth 20000 in
theorem ggX4_prove_X4_chunksOf : GoodIn wsX4_prove wsX4_chunksOf := goodIn_r _ [16] (by decide +kernel) (by decide +kernel)
set_option maxRecDepth 20000 in
theorem gX4_prove_X4_chunksOf : GoodIn wsX4_prove (va_wsS RX4 150 yX4_chunksOf wsX4_chunksOf) := goodIn_app (goodIn_of _ (by decide +kernel)) ggX4_prove_X4_chunksOf
set_option maxRecDepth 20000 in
theorem ggX4_prove_X3_lead : GoodIn wsX4_prove wsX3_lead := goodIn_r _ [43, 44, 45, 46, 47, 48, 42, 49, 164, 165, 166] (by decide +kernel) (by decide +kernel)
set_option maxRecDepth 20000 in
theorem gX4_prove_X3_lead : GoodIn wsX4_prove (wsV RX4 153 RX3 yX3_lead wsX3_lead) := goodIn_app (goodIn_of _ (by decide +kernel)) ggX4_prove_X3_lead
set_option maxRecDepth 20000 in
theorem ggX4_prove_X4_prepareTree : GoodIn wsX4_prove wsX4_prepareTree := goodIn_r _ [53, 8, 54, 55, 56, 57, 58, 59, 60, 61, 62, 63, 64, 65, 66, 67, 68, 69, 70, 71, 72, 73, 74, 75, 76, 77, 78, 79, 80, 81, 82, 83, 84, 85, 86, 31, 32, 20, 33, 22, 34, 87, 88, 89, 90, 91, 92, 93, 94, 95, 96, 97, 98, 99, 100, 101, 102, 103, 104, 105, 106, 107, 108, 109, 110, 111, 112, 113, 114, 115, 116, 117, 118, 119, 120, 121, 122, 123, 124, 125, 126, 127, 128, 129, 130, 131, 132, 133, 134, 135, 136, 137, 138, 139, 140, 141, 142, 143, 144, 145, 146, 147, 148, 155, 156, 157, 158, 159, 160, 161, 167, 168, 169, 170, 171, 172, 173, 174, 175, 176, 177, 178, 179, 162, 163, 180, 181, 182, 183, 184, 185, 186, 187] (by decide +kernel) (by decide +kernel)
set_option maxRecDepth 20000 in
theorem gX4_prove_X4_prepareTree : GoodIn wsX4_prove (wsV RX4 136 RX4 yX4_prepareTree wsX4_prepareTree) := goodIn_app (goodIn_of _ (by decide +kernel)) ggX4_prove_X4_prepareTree
set_option maxRecDepth 20000 in
theorem ggX4_prove_X2_run : GoodIn wsX4_prove wsX2_run := goodIn_r _ [114, 115, 116, 106, 117, 118, 119, 104, 120, 121, 108, 109, 110, 107, 122, 123, 124, 125, 126, 127, 128, 129, 130, 131, 180, 181, 182, 183, 184, 185, 186, 187] (by decide +kernel) (by decide +kernel)
set_option maxRecDepth 20000 in
theorem gX4_prove_X2_run : GoodIn wsX4_prove (wsV RX4 171 RX2 yX2_run wsX2_run) := goodIn_app (goodIn_of _ (by decide +kernel)) ggX4_prove_X2_run
set_option maxRecDepth 20000 in
theorem ggX4_prove_X2_writeChain : GoodIn wsX4_prove wsX2_writeChain := goodIn_r _ [140, 116, 180, 181, 182, 183, 184, 185, 186, 187] (by decide +kernel) (by decide +kernel)
set_option maxRecDepth 20000 in
theorem gX4_prove_X2_writeChain : GoodIn wsX4_prove (wsV RX4 174 RX2 yX2_writeChain wsX2_writeChain) := goodIn_app (goodIn_of _ (by decide +kernel)) ggX4_prove_X2_writeChain
set_option maxRecDepth 20000 in
theorem ggX4_prove_X0_appendChain : GoodIn wsX4_prove wsX0_appendChain := goodIn_r _ [154, 35, 36, 37, 20, 38, 22, 34, 162, 163] (by decide +kernel) (by decide +kernel)
set_option maxRecDepth 20000 in
theorem gX4_prove_X0_appendChain : GoodIn wsX4_prove (wsV RX4 178 RX0 yX0_appendChain wsX0_appendChain) := goodIn_app (goodIn_of _ (by decide +kernel)) ggX4_prove_X0_appendChain
theorem dX4_prove_0 : decode cX4_prove 0 = .ok (.aload_n 0, 1) := by decide +kernel
theorem dX4_prove_1 : decode cX4_prove 1 = .ok (.getfield 24, 3) := by decide +kernel
theorem dX4_prove_4 : decode cX4_prove 4 = .ok (.getfield 57, 3) := by decide +kernel
theorem dX4_prove_7 : decode cX4_prove 7 = .ok (.iload_n 1, 1) := by decide +kernel
theorem dX4_prove_8 : decode cX4_prove 8 = .ok (.invokestatic 140, 3) := by decide +kernel
theorem dX4_prove_11 : decode cX4_prove 11 = .ok (.ifCond .ne 6, 3) := by decide +kernel
theorem dX4_prove_14 : decode cX4_prove 14 = .ok (.bipush (-2), 2) := by decide +kernel
theorem dX4_prove_16 : decode cX4_prove 16 = .ok (.ireturn, 1) := by decide +kernel
theorem dX4_prove_17 : decode cX4_prove 17 = .ok (.aload_n 0, 1) := by decide +kernel
theorem dX4_prove_18 : decode cX4_prove 18 = .ok (.getfield 28, 3) := by decide +kernel
theorem dX4_prove_21 : decode cX4_prove 21 = .ok (.iconst 0, 1) := by decide +kernel
theorem dX4_prove_22 : decode cX4_prove 22 = .ok (.invokevirtual 61, 3) := by decide +kernel
theorem dX4_prove_25 : decode cX4_prove 25 = .ok (.pop, 1) := by decide +kernel
theorem dX4_prove_26 : decode cX4_prove 26 = .ok (.aload_n 0, 1) := by decide +kernel
theorem dX4_prove_27 : decode cX4_prove 27 = .ok (.getfield 28, 3) := by decide +kernel
theorem dX4_prove_30 : decode cX4_prove 30 = .ok (.aload_n 0, 1) := by decide +kernel
theorem dX4_prove_31 : decode cX4_prove 31 = .ok (.getfield 24, 3) := by decide +kernel
theorem dX4_prove_34 : decode cX4_prove 34 = .ok (.iload_n 1, 1) := by decide +kernel
theorem dX4_prove_35 : decode cX4_prove 35 = .ok (.sipush 1024, 3) := by decide +kernel
theorem dX4_prove_38 : decode cX4_prove 38 = .ok (.imul, 1) := by decide +kernel
theorem dX4_prove_39 : decode cX4_prove 39 = .ok (.aload_n 0, 1) := by decide +kernel
theorem dX4_prove_40 : decode cX4_prove 40 = .ok (.getfield 24, 3) := by decide +kernel
theorem dX4_prove_43 : decode cX4_prove 43 = .ok (.getfield 57, 3) := by decide +kernel
theorem dX4_prove_46 : decode cX4_prove 46 = .ok (.iload_n 1, 1) := by decide +kernel
theorem dX4_prove_47 : decode cX4_prove 47 = .ok (.invokestatic 144, 3) := by decide +kernel
theorem dX4_prove_50 : decode cX4_prove 50 = .ok (.invokevirtual 147, 3) := by decide +kernel
theorem dX4_prove_53 : decode cX4_prove 53 = .ok (.aload_n 0, 1) := by decide +kernel
theorem dX4_prove_54 : decode cX4_prove 54 = .ok (.getfield 39, 3) := by decide +kernel
theorem dX4_prove_57 : decode cX4_prove 57 = .ok (.aload_n 0, 1) := by decide +kernel
theorem dX4_prove_58 : decode cX4_prove 58 = .ok (.getfield 24, 3) := by decide +kernel
theorem dX4_prove_61 : decode cX4_prove 61 = .ok (.getfield 57, 3) := by decide +kernel
theorem dX4_prove_64 : decode cX4_prove 64 = .ok (.invokestatic 150, 3) := by decide +kernel
theorem dX4_prove_67 : decode cX4_prove 67 = .ok (.iload_n 1, 1) := by decide +kernel
theorem dX4_prove_68 : decode cX4_prove 68 = .ok (.invokevirtual 153, 3) := by decide +kernel
theorem dX4_prove_71 : decode cX4_prove 71 = .ok (.iconst 0, 1) := by decide +kernel
theorem dX4_prove_72 : decode cX4_prove 72 = .ok (.istore_n 2, 1) := by decide +kernel
theorem dX4_prove_73 : decode cX4_prove 73 = .ok (.iload_n 2, 1) := by decide +kernel
theorem dX4_prove_74 : decode cX4_prove 74 = .ok (.aload_n 0, 1) := by decide +kernel
theorem dX4_prove_75 : decode cX4_prove 75 = .ok (.getfield 39, 3) := by decide +kernel
theorem dX4_prove_78 : decode cX4_prove 78 = .ok (.getfield 157, 3) := by decide +kernel
theorem dX4_prove_81 : decode cX4_prove 81 = .ok (.if_icmp .ge 102, 3) := by decide +kernel
theorem dX4_prove_84 : decode cX4_prove 84 = .ok (.aload_n 0, 1) := by decide +kernel
theorem dX4_prove_85 : decode cX4_prove 85 = .ok (.getfield 39, 3) := by decide +kernel
theorem dX4_prove_88 : decode cX4_prove 88 = .ok (.getfield 160, 3) := by decide +kernel
theorem dX4_prove_91 : decode cX4_prove 91 = .ok (.iload_n 2, 1) := by decide +kernel
theorem dX4_prove_92 : decode cX4_prove 92 = .ok (.iaload, 1) := by decide +kernel
theorem dX4_prove_93 : decode cX4_prove 93 = .ok (.istore_n 3, 1) := by decide +kernel
theorem dX4_prove_94 : decode cX4_prove 94 = .ok (.aload_n 0, 1) := by decide +kernel
theorem dX4_prove_95 : decode cX4_prove 95 = .ok (.getfield 39, 3) := by decide +kernel
theorem dX4_prove_98 : decode cX4_prove 98 = .ok (.getfield 163, 3) := by decide +kernel
theorem dX4_prove_101 : decode cX4_prove 101 = .ok (.iload_n 2, 1) := by decide +kernel
theorem dX4_prove_102 : decode cX4_prove 102 = .ok (.iaload, 1) := by decide +kernel
theorem dX4_prove_103 : decode cX4_prove 103 = .ok (.sipush 1024, 3) := by decide +kernel
theorem dX4_prove_106 : decode cX4_prove 106 = .ok (.imul, 1) := by decide +kernel
theorem dX4_prove_107 : decode cX4_prove 107 = .ok (.aload_n 0, 1) := by decide +kernel
theorem dX4_prove_108 : decode cX4_prove 108 = .ok (.getfield 24, 3) := by decide +kernel
theorem dX4_prove_111 : decode cX4_prove 111 = .ok (.getfield 57, 3) := by decide +kernel
theorem dX4_prove_114 : decode cX4_prove 114 = .ok (.iload_n 3, 1) := by decide +kernel
theorem dX4_prove_115 : decode cX4_prove 115 = .ok (.sipush 1024, 3) := by decide +kernel
theorem dX4_prove_118 : decode cX4_prove 118 = .ok (.imul, 1) := by decide +kernel
theorem dX4_prove_119 : decode cX4_prove 119 = .ok (.isub, 1) := by decide +kernel
theorem dX4_prove_120 : decode cX4_prove 120 = .ok (.invokestatic 166, 3) := by decide +kernel
theorem dX4_prove_123 : decode cX4_prove 123 = .ok (.istore 4, 2) := by decide +kernel
theorem dX4_prove_125 : decode cX4_prove 125 = .ok (.aload_n 0, 1) := by decide +kernel
theorem dX4_prove_126 : decode cX4_prove 126 = .ok (.aload_n 0, 1) := by decide +kernel
theorem dX4_prove_127 : decode cX4_prove 127 = .ok (.getfield 24, 3) := by decide +kernel
theorem dX4_prove_130 : decode cX4_prove 130 = .ok (.iload_n 3, 1) := by decide +kernel
theorem dX4_prove_131 : decode cX4_prove 131 = .ok (.sipush 1024, 3) := by decide +kernel
theorem dX4_prove_134 : decode cX4_prove 134 = .ok (.imul, 1) := by decide +kernel
theorem dX4_prove_135 : decode cX4_prove 135 = .ok (.iload 4, 2) := by decide +kernel
theorem dX4_prove_137 : decode cX4_prove 137 = .ok (.iload_n 3, 1) := by decide +kernel
theorem dX4_prove_138 : decode cX4_prove 138 = .ok (.invokevirtual 136, 3) := by decide +kernel
theorem dX4_prove_141 : decode cX4_prove 141 = .ok (.aload_n 0, 1) := by decide +kernel
theorem dX4_prove_142 : decode cX4_prove 142 = .ok (.getfield 32, 3) := by decide +kernel
theorem dX4_prove_145 : decode cX4_prove 145 = .ok (.getfield 104, 3) := by decide +kernel
theorem dX4_prove_148 : decode cX4_prove 148 = .ok (.invokevirtual 171, 3) := by decide +kernel
theorem dX4_prove_151 : decode cX4_prove 151 = .ok (.aload_n 0, 1) := by decide +kernel
theorem dX4_prove_152 : decode cX4_prove 152 = .ok (.getfield 32, 3) := by decide +kernel
theorem dX4_prove_155 : decode cX4_prove 155 = .ok (.getfield 104, 3) := by decide +kernel
theorem dX4_prove_158 : decode cX4_prove 158 = .ok (.aload_n 0, 1) := by decide +kernel
theorem dX4_prove_159 : decode cX4_prove 159 = .ok (.getfield 43, 3) := by decide +kernel
theorem dX4_prove_162 : decode cX4_prove 162 = .ok (.iconst 0, 1) := by decide +kernel
theorem dX4_prove_163 : decode cX4_prove 163 = .ok (.invokevirtual 174, 3) := by decide +kernel
theorem dX4_prove_166 : decode cX4_prove 166 = .ok (.aload_n 0, 1) := by decide +kernel
theorem dX4_prove_167 : decode cX4_prove 167 = .ok (.getfield 28, 3) := by decide +kernel
theorem dX4_prove_170 : decode cX4_prove 170 = .ok (.aload_n 0, 1) := by decide +kernel
theorem dX4_prove_171 : decode cX4_prove 171 = .ok (.getfield 43, 3) := by decide +kernel
theorem dX4_prove_174 : decode cX4_prove 174 = .ok (.invokevirtual 178, 3) := by decide +kernel
theorem dX4_prove_177 : decode cX4_prove 177 = .ok (.iinc 2 1, 3) := by decide +kernel
theorem dX4_prove_180 : decode cX4_prove 180 = .ok (.goto (-107), 3) := by decide +kernel
theorem dX4_prove_183 : decode cX4_prove 183 = .ok (.aload_n 0, 1) := by decide +kernel
theorem dX4_prove_184 : decode cX4_prove 184 = .ok (.getfield 28, 3) := by decide +kernel
theorem dX4_prove_187 : decode cX4_prove 187 = .ok (.getfield 57, 3) := by decide +kernel
theorem dX4_prove_190 : decode cX4_prove 190 = .ok (.ireturn, 1) := by decide +kernel
set_option maxRecDepth 20000 in
theorem ggX4_proof_X0_byteAt : GoodIn wsX4_proof wsX0_byteAt := goodIn_r _ [6, 7, 8, 16, 17] (by decide +kernel) (by decide +kernel)
set_option maxRecDepth 20000 in
theorem gX4_proof_X0_byteAt : GoodIn wsX4_proof (wsV RX4 65 RX0 yX0_byteAt wsX0_byteAt) := goodIn_app (goodIn_of _ (by decide +kernel)) ggX4_proof_X0_byteAt
theorem dX4_proof_0 : decode cX4_proof 0 = .ok (.aload_n 0, 1) := by decide +kernel
theorem dX4_proof_1 : decode cX4_proof 1 = .ok (.getfield 28, 3) := by decide +kernel
theorem dX4_proof_4 : decode cX4_proof 4 = .ok (.iload_n 1, 1) := by decide +kernel
theorem dX4_proof_5 : decode cX4_proof 5 = .ok (.invokevirtual 65, 3) := by decide +kernel
theorem dX4_proof_8 : decode cX4_proof 8 = .ok (.ireturn, 1) := by decide +kernel
set_option maxRecDepth 20000 in
theorem ggX4_forge_X0_change : GoodIn wsX4_forge wsX0_change := goodIn_r _ [6, 7, 8, 16, 17] (by decide +kernel) (by decide +kernel)
set_option maxRecDepth 20000 in
theorem gX4_forge_X0_change : GoodIn wsX4_forge (wsV RX4 133 RX0 yX0_change wsX0_change) := goodIn_app (goodIn_of _ (by decide +kernel)) ggX4_forge_X0_change
theorem dX4_forge_0 : decode cX4_forge 0 = .ok (.aload_n 0, 1) := by decide +kernel
theorem dX4_forge_1 : decode cX4_forge 1 = .ok (.getfield 28, 3) := by decide +kernel
theorem dX4_forge_4 : decode cX4_forge 4 = .ok (.iload_n 1, 1) := by decide +kernel
theorem dX4_forge_5 : decode cX4_forge 5 = .ok (.iload_n 2, 1) := by decide +kernel
theorem dX4_forge_6 : decode cX4_forge 6 = .ok (.invokevirtual 133, 3) := by decide +kernel
theorem dX4_forge_9 : decode cX4_forge 9 = .ok (.ireturn, 1) := by decide +kernel
set_option maxRecDepth 20000 in
theorem ggX4_cut_X0_keepFirst : GoodIn wsX4_cut wsX0_keepFirst := goodIn_r _ [6, 7, 15, 16] (by decide +kernel) (by decide +kernel)
set_option maxRecDepth 20000 in
theorem gX4_cut_X0_keepFirst : GoodIn wsX4_cut (wsV RX4 61 RX0 yX0_keepFirst wsX0_keepFirst) := goodIn_app (goodIn_of _ (by decide +kernel)) ggX4_cut_X0_keepFirst
theorem dX4_cut_0 : decode cX4_cut 0 = .ok (.aload_n 0, 1) := by decide +kernel
theorem dX4_cut_1 : decode cX4_cut 1 = .ok (.getfield 28, 3) := by decide +kernel
theorem dX4_cut_4 : decode cX4_cut 4 = .ok (.iload_n 1, 1) := by decide +kernel
theorem dX4_cut_5 : decode cX4_cut 5 = .ok (.invokevirtual 61, 3) := by decide +kernel
theorem dX4_cut_8 : decode cX4_cut 8 = .ok (.ireturn, 1) := by decide +kernel
set_option maxRecDepth 20000 in
theorem ggX4_check_X4_isRegister : GoodIn wsX4_check wsX4_isRegister := goodIn_r _ [9] (by decide +kernel) (by decide +kernel)
set_option maxRecDepth 20000 in
theorem gX4_check_X4_isRegister : GoodIn wsX4_check (va_wsS RX4 47 yX4_isRegister wsX4_isRegister) := goodIn_app (goodIn_of _ (by decide +kernel)) ggX4_check_X4_isRegister
set_option maxRecDepth 20000 in
theorem ggX4_check_X4_hasChunk : GoodIn wsX4_check wsX4_hasChunk := goodIn_r _ [12, 13, 14, 8, 15] (by decide +kernel) (by decide +kernel)
set_option maxRecDepth 20000 in
theorem gX4_check_X4_hasChunk : GoodIn wsX4_check (va_wsS RX4 140 yX4_hasChunk wsX4_hasChunk) := goodIn_app (goodIn_of _ (by decide +kernel)) ggX4_check_X4_hasChunk
set_option maxRecDepth 20000 in
theorem ggX4_check_X4_chunksOf : GoodIn wsX4_check wsX4_chunksOf := goodIn_r _ [15] (by decide +kernel) (by decide +kernel)
set_option maxRecDepth 20000 in
theorem gX4_check_X4_chunksOf : GoodIn wsX4_check (va_wsS RX4 150 yX4_chunksOf wsX4_chunksOf) := goodIn_app (goodIn_of _ (by decide +kernel)) ggX4_check_X4_chunksOf
set_option maxRecDepth 20000 in
theorem ggX4_check_X3_lead : GoodIn wsX4_check wsX3_lead := goodIn_r _ [20, 21, 22, 23, 24, 25, 19, 26, 182, 183, 184] (by decide +kernel) (by decide +kernel)
set_option maxRecDepth 20000 in
theorem gX4_check_X3_lead : GoodIn wsX4_check (wsV RX4 153 RX3 yX3_lead wsX3_lead) := goodIn_app (goodIn_of _ (by decide +kernel)) ggX4_check_X3_lead
set_option maxRecDepth 20000 in
theorem ggX4_check_X4_chunkLength : GoodIn wsX4_check wsX4_chunkLength := goodIn_r _ [29, 30, 31, 32, 33] (by decide +kernel) (by decide +kernel)
set_option maxRecDepth 20000 in
theorem gX4_check_X4_chunkLength : GoodIn wsX4_check (va_wsS RX4 144 yX4_chunkLength wsX4_chunkLength) := goodIn_app (goodIn_of _ (by decide +kernel)) ggX4_check_X4_chunkLength
set_option maxRecDepth 20000 in
theorem ggX4_check_X4_prepareTree : GoodIn wsX4_check wsX4_prepareTree := goodIn_r _ [37, 5, 38, 39, 40, 41, 42, 43, 44, 45, 46, 47, 48, 49, 50, 51, 52, 53, 54, 55, 56, 57, 58, 59, 60, 61, 62, 63, 64, 65, 66, 67, 68, 69, 70, 71, 72, 73, 74, 75, 76, 77, 78, 79, 80, 81, 82, 83, 84, 85, 86, 87, 88, 89, 90, 91, 92, 93, 94, 95, 96, 97, 98, 99, 100, 101, 102, 103, 104, 105, 106, 107, 108, 109, 110, 111, 112, 113, 114, 115, 116, 117, 118, 119, 120, 121, 122, 123, 124, 125, 126, 127, 128, 129, 130, 131, 132, 133, 134, 135, 136, 137, 138, 173, 174, 175, 176, 177, 178, 179, 185, 186, 187, 188, 189, 190, 191, 192, 193, 194, 195, 196, 197, 180, 181, 198, 199, 200, 201, 202, 203, 204, 205] (by decide +kernel) (by decide +kernel)
set_option maxRecDepth 20000 in
theorem gX4_check_X4_prepareTree : GoodIn wsX4_check (wsV RX4 136 RX4 yX4_prepareTree wsX4_prepareTree) := goodIn_app (goodIn_of _ (by decide +kernel)) ggX4_check_X4_prepareTree
set_option maxRecDepth 20000 in
theorem ggX4_check_X4_climb : GoodIn wsX4_check wsX4_climb := goodIn_r _ [142, 3, 4, 143, 5, 38, 144, 145, 146, 73, 147, 148, 149, 150, 151, 152, 71, 72, 74, 75, 76, 153, 102, 103, 94, 104, 105, 106, 96, 107, 108, 109, 110, 111, 98, 99, 100, 97, 112, 113, 114, 115, 116, 117, 118, 119, 120, 121, 154, 123, 124, 125, 126, 92, 93, 95, 155, 156, 157, 158, 173, 174, 175, 176, 177, 178, 179, 182, 183, 184, 185, 186, 187, 188, 189, 190, 191, 192, 193, 194, 195, 196, 197, 180, 181, 198, 199, 200, 201, 202, 203, 204, 205] (by decide +kernel) (by decide +kernel)
set_option maxRecDepth 20000 in
theorem gX4_check_X4_climb : GoodIn wsX4_check (wsV RX4 183 RX4 yX4_climb wsX4_climb) := goodIn_app (goodIn_of _ (by decide +kernel)) ggX4_check_X4_climb
set_option maxRecDepth 20000 in
theorem ggX4_check_X2_rootBeginsWith : GoodIn wsX4_check wsX2_rootBeginsWith := goodIn_r _ [162, 163, 164, 165, 94, 166, 100, 167, 102, 103, 104, 105, 106, 96, 107, 108, 109, 110, 111, 98, 99, 97, 112, 113, 114, 115, 116, 117, 118, 119, 120, 121, 168, 169, 170, 171, 172, 71, 72, 73, 74, 75, 76, 198, 199, 200, 201, 202, 203, 204, 205, 180, 181] (by decide +kernel) (by decide +kernel)
set_option maxRecDepth 20000 in
theorem gX4_check_X2_rootBeginsWith : GoodIn wsX4_check (wsV RX4 186 RX2 yX2_rootBeginsWith wsX2_rootBeginsWith) := goodIn_app (goodIn_of _ (by decide +kernel)) ggX4_check_X2_rootBeginsWith
theorem dX4_check_0 : decode cX4_check 0 = .ok (.iload_n 1, 1) := by decide +kernel
theorem dX4_check_1 : decode cX4_check 1 = .ok (.invokestatic 47, 3) := by decide +kernel
theorem dX4_check_4 : decode cX4_check 4 = .ok (.ifCond .eq 17, 3) := by decide +kernel
theorem dX4_check_7 : decode cX4_check 7 = .ok (.aload_n 0, 1) := by decide +kernel
theorem dX4_check_8 : decode cX4_check 8 = .ok (.getfield 11, 3) := by decide +kernel
theorem dX4_check_11 : decode cX4_check 11 = .ok (.iload_n 1, 1) := by decide +kernel
theorem dX4_check_12 : decode cX4_check 12 = .ok (.aaload, 1) := by decide +kernel
theorem dX4_check_13 : decode cX4_check 13 = .ok (.getfield 57, 3) := by decide +kernel
theorem dX4_check_16 : decode cX4_check 16 = .ok (.bipush 32, 2) := by decide +kernel
theorem dX4_check_18 : decode cX4_check 18 = .ok (.if_icmp .eq 6, 3) := by decide +kernel
theorem dX4_check_21 : decode cX4_check 21 = .ok (.bipush (-2), 2) := by decide +kernel
theorem dX4_check_23 : decode cX4_check 23 = .ok (.ireturn, 1) := by decide +kernel
theorem dX4_check_24 : decode cX4_check 24 = .ok (.iload_n 2, 1) := by decide +kernel
theorem dX4_check_25 : decode cX4_check 25 = .ok (.ifCond .lt 17, 3) := by decide +kernel
theorem dX4_check_28 : decode cX4_check 28 = .ok (.iload_n 2, 1) := by decide +kernel
theorem dX4_check_29 : decode cX4_check 29 = .ok (.ldc 182, 2) := by decide +kernel
theorem dX4_check_31 : decode cX4_check 31 = .ok (.if_icmp .gt 11, 3) := by decide +kernel
theorem dX4_check_34 : decode cX4_check 34 = .ok (.iload_n 2, 1) := by decide +kernel
theorem dX4_check_35 : decode cX4_check 35 = .ok (.iload_n 3, 1) := by decide +kernel
theorem dX4_check_36 : decode cX4_check 36 = .ok (.invokestatic 140, 3) := by decide +kernel
theorem dX4_check_39 : decode cX4_check 39 = .ok (.ifCond .ne 6, 3) := by decide +kernel
theorem dX4_check_42 : decode cX4_check 42 = .ok (.bipush (-2), 2) := by decide +kernel
theorem dX4_check_44 : decode cX4_check 44 = .ok (.ireturn, 1) := by decide +kernel
theorem dX4_check_45 : decode cX4_check 45 = .ok (.aload_n 0, 1) := by decide +kernel
theorem dX4_check_46 : decode cX4_check 46 = .ok (.getfield 39, 3) := by decide +kernel
theorem dX4_check_49 : decode cX4_check 49 = .ok (.iload_n 2, 1) := by decide +kernel
theorem dX4_check_50 : decode cX4_check 50 = .ok (.invokestatic 150, 3) := by decide +kernel
theorem dX4_check_53 : decode cX4_check 53 = .ok (.iload_n 3, 1) := by decide +kernel
theorem dX4_check_54 : decode cX4_check 54 = .ok (.invokevirtual 153, 3) := by decide +kernel
theorem dX4_check_57 : decode cX4_check 57 = .ok (.iload_n 2, 1) := by decide +kernel
theorem dX4_check_58 : decode cX4_check 58 = .ok (.iload_n 3, 1) := by decide +kernel
theorem dX4_check_59 : decode cX4_check 59 = .ok (.invokestatic 144, 3) := by decide +kernel
theorem dX4_check_62 : decode cX4_check 62 = .ok (.istore 4, 2) := by decide +kernel
theorem dX4_check_64 : decode cX4_check 64 = .ok (.aload_n 0, 1) := by decide +kernel
theorem dX4_check_65 : decode cX4_check 65 = .ok (.getfield 28, 3) := by decide +kernel
theorem dX4_check_68 : decode cX4_check 68 = .ok (.getfield 57, 3) := by decide +kernel
theorem dX4_check_71 : decode cX4_check 71 = .ok (.iload 4, 2) := by decide +kernel
theorem dX4_check_73 : decode cX4_check 73 = .ok (.aload_n 0, 1) := by decide +kernel
theorem dX4_check_74 : decode cX4_check 74 = .ok (.getfield 39, 3) := by decide +kernel
theorem dX4_check_77 : decode cX4_check 77 = .ok (.getfield 157, 3) := by decide +kernel
theorem dX4_check_80 : decode cX4_check 80 = .ok (.bipush 32, 2) := by decide +kernel
theorem dX4_check_82 : decode cX4_check 82 = .ok (.imul, 1) := by decide +kernel
theorem dX4_check_83 : decode cX4_check 83 = .ok (.iadd, 1) := by decide +kernel
theorem dX4_check_84 : decode cX4_check 84 = .ok (.if_icmp .eq 5, 3) := by decide +kernel
theorem dX4_check_87 : decode cX4_check 87 = .ok (.iconst 0, 1) := by decide +kernel
theorem dX4_check_88 : decode cX4_check 88 = .ok (.ireturn, 1) := by decide +kernel
theorem dX4_check_89 : decode cX4_check 89 = .ok (.aload_n 0, 1) := by decide +kernel
theorem dX4_check_90 : decode cX4_check 90 = .ok (.aload_n 0, 1) := by decide +kernel
theorem dX4_check_91 : decode cX4_check 91 = .ok (.getfield 28, 3) := by decide +kernel
theorem dX4_check_94 : decode cX4_check 94 = .ok (.iconst 0, 1) := by decide +kernel
theorem dX4_check_95 : decode cX4_check 95 = .ok (.iload 4, 2) := by decide +kernel
theorem dX4_check_97 : decode cX4_check 97 = .ok (.iload_n 3, 1) := by decide +kernel
theorem dX4_check_98 : decode cX4_check 98 = .ok (.invokevirtual 136, 3) := by decide +kernel
theorem dX4_check_101 : decode cX4_check 101 = .ok (.aload_n 0, 1) := by decide +kernel
theorem dX4_check_102 : decode cX4_check 102 = .ok (.iload 4, 2) := by decide +kernel
theorem dX4_check_104 : decode cX4_check 104 = .ok (.iload_n 3, 1) := by decide +kernel
theorem dX4_check_105 : decode cX4_check 105 = .ok (.invokevirtual 183, 3) := by decide +kernel
theorem dX4_check_108 : decode cX4_check 108 = .ok (.aload_n 0, 1) := by decide +kernel
theorem dX4_check_109 : decode cX4_check 109 = .ok (.getfield 32, 3) := by decide +kernel
theorem dX4_check_112 : decode cX4_check 112 = .ok (.getfield 104, 3) := by decide +kernel
theorem dX4_check_115 : decode cX4_check 115 = .ok (.aload_n 0, 1) := by decide +kernel
theorem dX4_check_116 : decode cX4_check 116 = .ok (.getfield 11, 3) := by decide +kernel
theorem dX4_check_119 : decode cX4_check 119 = .ok (.iload_n 1, 1) := by decide +kernel
theorem dX4_check_120 : decode cX4_check 120 = .ok (.aaload, 1) := by decide +kernel
theorem dX4_check_121 : decode cX4_check 121 = .ok (.invokevirtual 186, 3) := by decide +kernel
theorem dX4_check_124 : decode cX4_check 124 = .ok (.ifCond .eq 7, 3) := by decide +kernel
theorem dX4_check_127 : decode cX4_check 127 = .ok (.iconst 1, 1) := by decide +kernel
theorem dX4_check_128 : decode cX4_check 128 = .ok (.goto 4, 3) := by decide +kernel
theorem dX4_check_131 : decode cX4_check 131 = .ok (.iconst 0, 1) := by decide +kernel
theorem dX4_check_132 : decode cX4_check 132 = .ok (.ireturn, 1) := by decide +kernel
theorem dX4_isRegister_0 : decode cX4_isRegister 0 = .ok (.iload_n 0, 1) := by decide +kernel
theorem dX4_isRegister_1 : decode cX4_isRegister 1 = .ok (.ifCond .lt 13, 3) := by decide +kernel
theorem dX4_isRegister_4 : decode cX4_isRegister 4 = .ok (.iload_n 0, 1) := by decide +kernel
theorem dX4_isRegister_5 : decode cX4_isRegister 5 = .ok (.bipush 8, 2) := by decide +kernel
theorem dX4_isRegister_7 : decode cX4_isRegister 7 = .ok (.if_icmp .ge 7, 3) := by decide +kernel
theorem dX4_isRegister_10 : decode cX4_isRegister 10 = .ok (.iconst 1, 1) := by decide +kernel
theorem dX4_isRegister_11 : decode cX4_isRegister 11 = .ok (.goto 4, 3) := by decide +kernel
theorem dX4_isRegister_14 : decode cX4_isRegister 14 = .ok (.iconst 0, 1) := by decide +kernel
theorem dX4_isRegister_15 : decode cX4_isRegister 15 = .ok (.ireturn, 1) := by decide +kernel
theorem dX4_isHasher_0 : decode cX4_isHasher 0 = .ok (.iload_n 0, 1) := by decide +kernel
theorem dX4_isHasher_1 : decode cX4_isHasher 1 = .ok (.ifCond .lt 12, 3) := by decide +kernel
theorem dX4_isHasher_4 : decode cX4_isHasher 4 = .ok (.iload_n 0, 1) := by decide +kernel
theorem dX4_isHasher_5 : decode cX4_isHasher 5 = .ok (.iconst 4, 1) := by decide +kernel
theorem dX4_isHasher_6 : decode cX4_isHasher 6 = .ok (.if_icmp .ge 7, 3) := by decide +kernel
theorem dX4_isHasher_9 : decode cX4_isHasher 9 = .ok (.iconst 1, 1) := by decide +kernel
theorem dX4_isHasher_10 : decode cX4_isHasher 10 = .ok (.goto 4, 3) := by decide +kernel
theorem dX4_isHasher_13 : decode cX4_isHasher 13 = .ok (.iconst 0, 1) := by decide +kernel
theorem dX4_isHasher_14 : decode cX4_isHasher 14 = .ok (.ireturn, 1) := by decide +kernel
theorem dX4_chunksOf_0 : decode cX4_chunksOf 0 = .ok (.iload_n 0, 1) := by decide +kernel
theorem dX4_chunksOf_1 : decode cX4_chunksOf 1 = .ok (.ifCond .ne 7, 3) := by decide +kernel
theorem dX4_chunksOf_4 : decode cX4_chunksOf 4 = .ok (.iconst 1, 1) := by decide +kernel
theorem dX4_chunksOf_5 : decode cX4_chunksOf 5 = .ok (.goto 12, 3) := by decide +kernel
theorem dX4_chunksOf_8 : decode cX4_chunksOf 8 = .ok (.iload_n 0, 1) := by decide +kernel
theorem dX4_chunksOf_9 : decode cX4_chunksOf 9 = .ok (.iconst 1, 1) := by decide +kernel
theorem dX4_chunksOf_10 : decode cX4_chunksOf 10 = .ok (.isub, 1) := by decide +kernel
theorem dX4_chunksOf_11 : decode cX4_chunksOf 11 = .ok (.sipush 1024, 3) := by decide +kernel
theorem dX4_chunksOf_14 : decode cX4_chunksOf 14 = .ok (.idiv, 1) := by decide +kernel
theorem dX4_chunksOf_15 : decode cX4_chunksOf 15 = .ok (.iconst 1, 1) := by decide +kernel
theorem dX4_chunksOf_16 : decode cX4_chunksOf 16 = .ok (.iadd, 1) := by decide +kernel
theorem dX4_chunksOf_17 : decode cX4_chunksOf 17 = .ok (.ireturn, 1) := by decide +kernel
set_option maxRecDepth 20000 in
theorem ggX4_hasChunk_X4_chunksOf : GoodIn wsX4_hasChunk wsX4_chunksOf := goodIn_r _ [4] (by decide +kernel) (by decide +kernel)
set_option maxRecDepth 20000 in
theorem gX4_hasChunk_X4_chunksOf : GoodIn wsX4_hasChunk (va_wsS RX4 150 yX4_chunksOf wsX4_chunksOf) := goodIn_app (goodIn_of _ (by decide +kernel)) ggX4_hasChunk_X4_chunksOf
theorem dX4_hasChunk_0 : decode cX4_hasChunk 0 = .ok (.iload_n 1, 1) := by decide +kernel
theorem dX4_hasChunk_1 : decode cX4_hasChunk 1 = .ok (.ifCond .lt 15, 3) := by decide +kernel
theorem dX4_hasChunk_4 : decode cX4_hasChunk 4 = .ok (.iload_n 1, 1) := by decide +kernel
theorem dX4_hasChunk_5 : decode cX4_hasChunk 5 = .ok (.iload_n 0, 1) := by decide +kernel
theorem dX4_hasChunk_6 : decode cX4_hasChunk 6 = .ok (.invokestatic 150, 3) := by decide +kernel
theorem dX4_hasChunk_9 : decode cX4_hasChunk 9 = .ok (.if_icmp .ge 7, 3) := by decide +kernel
theorem dX4_hasChunk_12 : decode cX4_hasChunk 12 = .ok (.iconst 1, 1) := by decide +kernel
theorem dX4_hasChunk_13 : decode cX4_hasChunk 13 = .ok (.goto 4, 3) := by decide +kernel
theorem dX4_hasChunk_16 : decode cX4_hasChunk 16 = .ok (.iconst 0, 1) := by decide +kernel
theorem dX4_hasChunk_17 : decode cX4_hasChunk 17 = .ok (.ireturn, 1) := by decide +kernel
theorem dX4_chunkLength_0 : decode cX4_chunkLength 0 = .ok (.sipush 1024, 3) := by decide +kernel
theorem dX4_chunkLength_3 : decode cX4_chunkLength 3 = .ok (.iload_n 0, 1) := by decide +kernel
theorem dX4_chunkLength_4 : decode cX4_chunkLength 4 = .ok (.iload_n 1, 1) := by decide +kernel
theorem dX4_chunkLength_5 : decode cX4_chunkLength 5 = .ok (.sipush 1024, 3) := by decide +kernel
theorem dX4_chunkLength_8 : decode cX4_chunkLength 8 = .ok (.imul, 1) := by decide +kernel
theorem dX4_chunkLength_9 : decode cX4_chunkLength 9 = .ok (.isub, 1) := by decide +kernel
theorem dX4_chunkLength_10 : decode cX4_chunkLength 10 = .ok (.invokestatic 166, 3) := by decide +kernel
theorem dX4_chunkLength_13 : decode cX4_chunkLength 13 = .ok (.ireturn, 1) := by decide +kernel
set_option maxRecDepth 20000 in
theorem ggX4_deriveKey_X1_restart : GoodIn wsX4_deriveKey wsX1_restart := goodIn_r _ [8, 9, 10, 11, 12, 13, 14, 15, 16, 17, 7, 18, 19, 20, 21, 22, 23, 24, 25, 26, 27, 28, 29, 30, 119, 120, 121, 122, 123, 124, 125, 126, 127, 128, 129, 130, 131] (by decide +kernel) (by decide +kernel)
set_option maxRecDepth 20000 in
theorem gX4_deriveKey_X1_restart : GoodIn wsX4_deriveKey (wsV RX4 76 RX1 yX1_restart wsX1_restart) := goodIn_app (goodIn_of _ (by decide +kernel)) ggX4_deriveKey_X1_restart
set_option maxRecDepth 20000 in
theorem ggX4_deriveKey_X1_absorb : GoodIn wsX4_deriveKey wsX1_absorb := goodIn_r _ [34, 35, 36, 37, 38, 39, 40, 41, 42, 43, 44, 7, 45, 30, 24, 29, 13, 46, 47, 48, 49, 50, 14, 15, 51, 9, 11, 52, 53, 54, 55, 23, 12, 56, 57, 58, 59, 60, 61, 62, 63, 64, 65, 66, 67, 68, 69, 70, 71, 72, 73, 74, 75, 76, 77, 78, 79, 80, 81, 82, 83, 84, 85, 86, 87, 88, 89, 90, 91, 92, 93, 94, 95, 19, 20, 21, 22, 16, 17, 18, 25, 26, 27, 28, 96, 97, 98, 99, 117, 118, 119, 120, 121, 122, 123, 124, 125, 126, 127, 128, 129, 130, 131, 132, 133, 134, 135, 136, 137, 138, 139] (by decide +kernel) (by decide +kernel)
set_option maxRecDepth 20000 in
theorem gX4_deriveKey_X1_absorb : GoodIn wsX4_deriveKey (wsV RX4 92 RX1 yX1_absorb wsX1_absorb) := goodIn_app (goodIn_of _ (by decide +kernel)) ggX4_deriveKey_X1_absorb
set_option maxRecDepth 20000 in
theorem ggX4_deriveKey_X1_prepareLast : GoodIn wsX4_deriveKey wsX1_prepareLast := goodIn_r _ [103, 15, 50, 51, 9, 11, 52, 53, 54, 7, 55, 24, 23, 29, 12, 14, 30, 56, 57, 58, 59, 60, 61, 62, 63, 64, 65, 66, 67, 68, 69, 70, 71, 72, 73, 74, 75, 76, 77, 78, 79, 80, 81, 82, 83, 84, 85, 86, 87, 88, 89, 90, 91, 119, 120, 121, 122, 123, 124, 125, 126, 127, 128, 129, 130, 131, 132, 133, 134, 135, 136, 137, 138, 139] (by decide +kernel) (by decide +kernel)
set_option maxRecDepth 20000 in
theorem gX4_deriveKey_X1_prepareLast : GoodIn wsX4_deriveKey (wsV RX4 101 RX1 yX1_prepareLast wsX1_prepareLast) := goodIn_app (goodIn_of _ (by decide +kernel)) ggX4_deriveKey_X1_prepareLast
set_option maxRecDepth 20000 in
theorem ggX4_deriveKey_X2_makeRoot : GoodIn wsX4_deriveKey wsX2_makeRoot := goodIn_r _ [107, 65, 132, 133, 134, 135, 136, 137, 138, 139] (by decide +kernel) (by decide +kernel)
set_option maxRecDepth 20000 in
theorem gX4_deriveKey_X2_makeRoot : GoodIn wsX4_deriveKey (wsV RX4 190 RX2 yX2_makeRoot wsX2_makeRoot) := goodIn_app (goodIn_of _ (by decide +kernel)) ggX4_deriveKey_X2_makeRoot
set_option maxRecDepth 20000 in
theorem ggX4_deriveKey_X2_run : GoodIn wsX4_deriveKey wsX2_run := goodIn_r _ [69, 70, 71, 61, 72, 73, 74, 59, 75, 76, 63, 64, 65, 62, 77, 78, 79, 80, 81, 82, 83, 84, 85, 86, 132, 133, 134, 135, 136, 137, 138, 139] (by decide +kernel) (by decide +kernel)
set_option maxRecDepth 20000 in
theorem gX4_deriveKey_X2_run : GoodIn wsX4_deriveKey (wsV RX4 171 RX2 yX2_run wsX2_run) := goodIn_app (goodIn_of _ (by decide +kernel)) ggX4_deriveKey_X2_run
set_option maxRecDepth 20000 in
theorem ggX4_deriveKey_X2_writeChain : GoodIn wsX4_deriveKey wsX2_writeChain := goodIn_r _ [95, 71, 132, 133, 134, 135, 136, 137, 138, 139] (by decide +kernel) (by decide +kernel)
set_option maxRecDepth 20000 in
theorem gX4_deriveKey_X2_writeChain : GoodIn wsX4_deriveKey (wsV RX4 174 RX2 yX2_writeChain wsX2_writeChain) := goodIn_app (goodIn_of _ (by decide +kernel)) ggX4_deriveKey_X2_writeChain
theorem dX4_deriveKey_0 : decode cX4_deriveKey 0 = .ok (.aload_n 0, 1) := by decide +kernel
theorem dX4_deriveKey_1 : decode cX4_deriveKey 1 = .ok (.getfield 32, 3) := by decide +kernel
theorem dX4_deriveKey_4 : decode cX4_deriveKey 4 = .ok (.iconst 0, 1) := by decide +kernel
theorem dX4_deriveKey_5 : decode cX4_deriveKey 5 = .ok (.bipush 32, 2) := by decide +kernel
theorem dX4_deriveKey_7 : decode cX4_deriveKey 7 = .ok (.getstatic 71, 3) := by decide +kernel
theorem dX4_deriveKey_10 : decode cX4_deriveKey 10 = .ok (.iconst 0, 1) := by decide +kernel
theorem dX4_deriveKey_11 : decode cX4_deriveKey 11 = .ok (.invokevirtual 76, 3) := by decide +kernel
theorem dX4_deriveKey_14 : decode cX4_deriveKey 14 = .ok (.aload_n 0, 1) := by decide +kernel
theorem dX4_deriveKey_15 : decode cX4_deriveKey 15 = .ok (.getfield 32, 3) := by decide +kernel
theorem dX4_deriveKey_18 : decode cX4_deriveKey 18 = .ok (.aload_n 1, 1) := by decide +kernel
theorem dX4_deriveKey_19 : decode cX4_deriveKey 19 = .ok (.iconst 0, 1) := by decide +kernel
theorem dX4_deriveKey_20 : decode cX4_deriveKey 20 = .ok (.aload_n 1, 1) := by decide +kernel
theorem dX4_deriveKey_21 : decode cX4_deriveKey 21 = .ok (.getfield 57, 3) := by decide +kernel
theorem dX4_deriveKey_24 : decode cX4_deriveKey 24 = .ok (.invokevirtual 92, 3) := by decide +kernel
theorem dX4_deriveKey_27 : decode cX4_deriveKey 27 = .ok (.aload_n 0, 1) := by decide +kernel
theorem dX4_deriveKey_28 : decode cX4_deriveKey 28 = .ok (.getfield 32, 3) := by decide +kernel
theorem dX4_deriveKey_31 : decode cX4_deriveKey 31 = .ok (.invokevirtual 101, 3) := by decide +kernel
theorem dX4_deriveKey_34 : decode cX4_deriveKey 34 = .ok (.aload_n 0, 1) := by decide +kernel
theorem dX4_deriveKey_35 : decode cX4_deriveKey 35 = .ok (.getfield 32, 3) := by decide +kernel
theorem dX4_deriveKey_38 : decode cX4_deriveKey 38 = .ok (.getfield 104, 3) := by decide +kernel
theorem dX4_deriveKey_41 : decode cX4_deriveKey 41 = .ok (.invokevirtual 190, 3) := by decide +kernel
theorem dX4_deriveKey_44 : decode cX4_deriveKey 44 = .ok (.aload_n 0, 1) := by decide +kernel
theorem dX4_deriveKey_45 : decode cX4_deriveKey 45 = .ok (.getfield 32, 3) := by decide +kernel
theorem dX4_deriveKey_48 : decode cX4_deriveKey 48 = .ok (.getfield 104, 3) := by decide +kernel
theorem dX4_deriveKey_51 : decode cX4_deriveKey 51 = .ok (.invokevirtual 171, 3) := by decide +kernel
theorem dX4_deriveKey_54 : decode cX4_deriveKey 54 = .ok (.aload_n 0, 1) := by decide +kernel
theorem dX4_deriveKey_55 : decode cX4_deriveKey 55 = .ok (.getfield 32, 3) := by decide +kernel
theorem dX4_deriveKey_58 : decode cX4_deriveKey 58 = .ok (.getfield 104, 3) := by decide +kernel
theorem dX4_deriveKey_61 : decode cX4_deriveKey 61 = .ok (.aload_n 0, 1) := by decide +kernel
theorem dX4_deriveKey_62 : decode cX4_deriveKey 62 = .ok (.getfield 43, 3) := by decide +kernel
theorem dX4_deriveKey_65 : decode cX4_deriveKey 65 = .ok (.iconst 0, 1) := by decide +kernel
theorem dX4_deriveKey_66 : decode cX4_deriveKey 66 = .ok (.invokevirtual 174, 3) := by decide +kernel
theorem dX4_deriveKey_69 : decode cX4_deriveKey 69 = .ok (.return_, 1) := by decide +kernel
set_option maxRecDepth 20000 in
theorem ggX4_prepareTree_X1_restart : GoodIn wsX4_prepareTree wsX1_restart := goodIn_r _ [7, 8, 9, 10, 11, 12, 13, 14, 15, 16, 6, 17, 18, 19, 20, 21, 22, 23, 24, 25, 26, 27, 28, 29, 110, 111, 112, 113, 114, 115, 116, 117, 118, 119, 120, 121, 122] (by decide +kernel) (by decide +kernel)
set_option maxRecDepth 20000 in
theorem gX4_prepareTree_X1_restart : GoodIn wsX4_prepareTree (wsV RX4 76 RX1 yX1_restart wsX1_restart) := goodIn_app (goodIn_of _ (by decide +kernel)) ggX4_prepareTree_X1_restart
set_option maxRecDepth 20000 in
theorem ggX4_prepareTree_X1_absorb : GoodIn wsX4_prepareTree wsX1_absorb := goodIn_r _ [33, 34, 35, 36, 37, 38, 39, 40, 41, 42, 43, 6, 44, 29, 23, 28, 12, 45, 46, 47, 48, 49, 13, 14, 50, 8, 10, 51, 52, 53, 54, 22, 11, 55, 56, 57, 58, 59, 60, 61, 62, 63, 64, 65, 66, 67, 68, 69, 70, 71, 72, 73, 74, 75, 76, 77, 78, 79, 80, 81, 82, 83, 84, 85, 86, 87, 88, 89, 90, 91, 92, 93, 94, 18, 19, 20, 21, 15, 16, 17, 24, 25, 26, 27, 95, 96, 97, 98, 123, 124, 110, 111, 112, 113, 114, 115, 116, 117, 118, 119, 120, 121, 122, 125, 126, 127, 128, 129, 130, 131, 132] (by decide +kernel) (by decide +kernel)
set_option maxRecDepth 20000 in
theorem gX4_prepareTree_X1_absorb : GoodIn wsX4_prepareTree (wsV RX4 92 RX1 yX1_absorb wsX1_absorb) := goodIn_app (goodIn_of _ (by decide +kernel)) ggX4_prepareTree_X1_absorb
set_option maxRecDepth 20000 in
theorem ggX4_prepareTree_X1_prepareLast : GoodIn wsX4_prepareTree wsX1_prepareLast := goodIn_r _ [102, 14, 49, 50, 8, 10, 51, 52, 53, 6, 54, 23, 22, 28, 11, 13, 29, 55, 56, 57, 58, 59, 60, 61, 62, 63, 64, 65, 66, 67, 68, 69, 70, 71, 72, 73, 74, 75, 76, 77, 78, 79, 80, 81, 82, 83, 84, 85, 86, 87, 88, 89, 90, 110, 111, 112, 113, 114, 115, 116, 117, 118, 119, 120, 121, 122, 125, 126, 127, 128, 129, 130, 131, 132] (by decide +kernel) (by decide +kernel)
set_option maxRecDepth 20000 in
theorem gX4_prepareTree_X1_prepareLast : GoodIn wsX4_prepareTree (wsV RX4 101 RX1 yX1_prepareLast wsX1_prepareLast) := goodIn_app (goodIn_of _ (by decide +kernel)) ggX4_prepareTree_X1_prepareLast
theorem dX4_prepareTree_0 : decode cX4_prepareTree 0 = .ok (.aload_n 0, 1) := by decide +kernel
theorem dX4_prepareTree_1 : decode cX4_prepareTree 1 = .ok (.getfield 32, 3) := by decide +kernel
theorem dX4_prepareTree_4 : decode cX4_prepareTree 4 = .ok (.iconst 0, 1) := by decide +kernel
theorem dX4_prepareTree_5 : decode cX4_prepareTree 5 = .ok (.iconst 0, 1) := by decide +kernel
theorem dX4_prepareTree_6 : decode cX4_prepareTree 6 = .ok (.getstatic 71, 3) := by decide +kernel
theorem dX4_prepareTree_9 : decode cX4_prepareTree 9 = .ok (.iload 4, 2) := by decide +kernel
theorem dX4_prepareTree_11 : decode cX4_prepareTree 11 = .ok (.invokevirtual 76, 3) := by decide +kernel
theorem dX4_prepareTree_14 : decode cX4_prepareTree 14 = .ok (.aload_n 0, 1) := by decide +kernel
theorem dX4_prepareTree_15 : decode cX4_prepareTree 15 = .ok (.getfield 32, 3) := by decide +kernel
theorem dX4_prepareTree_18 : decode cX4_prepareTree 18 = .ok (.aload_n 1, 1) := by decide +kernel
theorem dX4_prepareTree_19 : decode cX4_prepareTree 19 = .ok (.iload_n 2, 1) := by decide +kernel
theorem dX4_prepareTree_20 : decode cX4_prepareTree 20 = .ok (.iload_n 3, 1) := by decide +kernel
theorem dX4_prepareTree_21 : decode cX4_prepareTree 21 = .ok (.invokevirtual 92, 3) := by decide +kernel
theorem dX4_prepareTree_24 : decode cX4_prepareTree 24 = .ok (.aload_n 0, 1) := by decide +kernel
theorem dX4_prepareTree_25 : decode cX4_prepareTree 25 = .ok (.getfield 32, 3) := by decide +kernel
theorem dX4_prepareTree_28 : decode cX4_prepareTree 28 = .ok (.invokevirtual 101, 3) := by decide +kernel
theorem dX4_prepareTree_31 : decode cX4_prepareTree 31 = .ok (.return_, 1) := by decide +kernel
set_option maxRecDepth 20000 in
theorem ggX4_climb_X0_readChain : GoodIn wsX4_climb wsX0_readChain := goodIn_r _ [10, 11, 12, 13, 9, 14, 15, 16, 17, 18, 19, 20, 83, 84] (by decide +kernel) (by decide +kernel)
set_option maxRecDepth 20000 in
theorem gX4_climb_X0_readChain : GoodIn wsX4_climb (wsV RX4 80 RX0 yX0_readChain wsX0_readChain) := goodIn_app (goodIn_of _ (by decide +kernel)) ggX4_climb_X0_readChain
set_option maxRecDepth 20000 in
theorem ggX4_climb_X2_run : GoodIn wsX4_climb wsX2_run := goodIn_r _ [25, 26, 27, 28, 29, 30, 31, 24, 32, 33, 34, 35, 36, 37, 38, 39, 40, 41, 42, 43, 44, 45, 46, 47, 85, 86, 87, 88, 89, 90, 91, 92] (by decide +kernel) (by decide +kernel)
set_option maxRecDepth 20000 in
theorem gX4_climb_X2_run : GoodIn wsX4_climb (wsV RX4 171 RX2 yX2_run wsX2_run) := goodIn_app (goodIn_of _ (by decide +kernel)) ggX4_climb_X2_run
set_option maxRecDepth 20000 in
theorem ggX4_climb_X2_joinBehind : GoodIn wsX4_climb wsX2_joinBehind := goodIn_r _ [51, 37, 27, 52, 53, 54, 24, 55, 28, 34, 35, 36, 85, 86, 87, 88, 89, 90, 91, 92] (by decide +kernel) (by decide +kernel)
set_option maxRecDepth 20000 in
theorem gX4_climb_X2_joinBehind : GoodIn wsX4_climb (wsV RX4 193 RX2 yX2_joinBehind wsX2_joinBehind) := goodIn_app (goodIn_of _ (by decide +kernel)) ggX4_climb_X2_joinBehind
set_option maxRecDepth 20000 in
theorem ggX4_climb_X2_joinBefore : GoodIn wsX4_climb wsX2_joinBefore := goodIn_r _ [59, 37, 27, 52, 53, 54, 24, 55, 28, 34, 35, 36, 85, 86, 87, 88, 89, 90, 91, 92] (by decide +kernel) (by decide +kernel)
set_option maxRecDepth 20000 in
theorem gX4_climb_X2_joinBefore : GoodIn wsX4_climb (wsV RX4 197 RX2 yX2_joinBefore wsX2_joinBefore) := goodIn_app (goodIn_of _ (by decide +kernel)) ggX4_climb_X2_joinBefore
theorem dX4_climb_0 : decode cX4_climb 0 = .ok (.aload_n 0, 1) := by decide +kernel
theorem dX4_climb_1 : decode cX4_climb 1 = .ok (.getfield 39, 3) := by decide +kernel
theorem dX4_climb_4 : decode cX4_climb 4 = .ok (.getfield 157, 3) := by decide +kernel
theorem dX4_climb_7 : decode cX4_climb 7 = .ok (.iconst 1, 1) := by decide +kernel
theorem dX4_climb_8 : decode cX4_climb 8 = .ok (.isub, 1) := by decide +kernel
theorem dX4_climb_9 : decode cX4_climb 9 = .ok (.istore_n 3, 1) := by decide +kernel
theorem dX4_climb_10 : decode cX4_climb 10 = .ok (.iload_n 3, 1) := by decide +kernel
theorem dX4_climb_11 : decode cX4_climb 11 = .ok (.ifCond .lt 90, 3) := by decide +kernel
theorem dX4_climb_14 : decode cX4_climb 14 = .ok (.aload_n 0, 1) := by decide +kernel
theorem dX4_climb_15 : decode cX4_climb 15 = .ok (.getfield 28, 3) := by decide +kernel
theorem dX4_climb_18 : decode cX4_climb 18 = .ok (.iload_n 1, 1) := by decide +kernel
theorem dX4_climb_19 : decode cX4_climb 19 = .ok (.iload_n 3, 1) := by decide +kernel
theorem dX4_climb_20 : decode cX4_climb 20 = .ok (.bipush 32, 2) := by decide +kernel
theorem dX4_climb_22 : decode cX4_climb 22 = .ok (.imul, 1) := by decide +kernel
theorem dX4_climb_23 : decode cX4_climb 23 = .ok (.iadd, 1) := by decide +kernel
theorem dX4_climb_24 : decode cX4_climb 24 = .ok (.aload_n 0, 1) := by decide +kernel
theorem dX4_climb_25 : decode cX4_climb 25 = .ok (.getfield 43, 3) := by decide +kernel
theorem dX4_climb_28 : decode cX4_climb 28 = .ok (.invokevirtual 80, 3) := by decide +kernel
theorem dX4_climb_31 : decode cX4_climb 31 = .ok (.aload_n 0, 1) := by decide +kernel
theorem dX4_climb_32 : decode cX4_climb 32 = .ok (.getfield 32, 3) := by decide +kernel
theorem dX4_climb_35 : decode cX4_climb 35 = .ok (.getfield 104, 3) := by decide +kernel
theorem dX4_climb_38 : decode cX4_climb 38 = .ok (.invokevirtual 171, 3) := by decide +kernel
theorem dX4_climb_41 : decode cX4_climb 41 = .ok (.aload_n 0, 1) := by decide +kernel
theorem dX4_climb_42 : decode cX4_climb 42 = .ok (.getfield 39, 3) := by decide +kernel
theorem dX4_climb_45 : decode cX4_climb 45 = .ok (.getfield 160, 3) := by decide +kernel
theorem dX4_climb_48 : decode cX4_climb 48 = .ok (.iload_n 3, 1) := by decide +kernel
theorem dX4_climb_49 : decode cX4_climb 49 = .ok (.iaload, 1) := by decide +kernel
theorem dX4_climb_50 : decode cX4_climb 50 = .ok (.iload_n 2, 1) := by decide +kernel
theorem dX4_climb_51 : decode cX4_climb 51 = .ok (.if_icmp .ge 25, 3) := by decide +kernel
theorem dX4_climb_54 : decode cX4_climb 54 = .ok (.aload_n 0, 1) := by decide +kernel
theorem dX4_climb_55 : decode cX4_climb 55 = .ok (.getfield 32, 3) := by decide +kernel
theorem dX4_climb_58 : decode cX4_climb 58 = .ok (.getfield 104, 3) := by decide +kernel
theorem dX4_climb_61 : decode cX4_climb 61 = .ok (.aload_n 0, 1) := by decide +kernel
theorem dX4_climb_62 : decode cX4_climb 62 = .ok (.getfield 43, 3) := by decide +kernel
theorem dX4_climb_65 : decode cX4_climb 65 = .ok (.iconst 0, 1) := by decide +kernel
theorem dX4_climb_66 : decode cX4_climb 66 = .ok (.getstatic 71, 3) := by decide +kernel
theorem dX4_climb_69 : decode cX4_climb 69 = .ok (.iconst 0, 1) := by decide +kernel
theorem dX4_climb_70 : decode cX4_climb 70 = .ok (.invokevirtual 193, 3) := by decide +kernel
theorem dX4_climb_73 : decode cX4_climb 73 = .ok (.goto 22, 3) := by decide +kernel
theorem dX4_climb_76 : decode cX4_climb 76 = .ok (.aload_n 0, 1) := by decide +kernel
theorem dX4_climb_77 : decode cX4_climb 77 = .ok (.getfield 32, 3) := by decide +kernel
theorem dX4_climb_80 : decode cX4_climb 80 = .ok (.getfield 104, 3) := by decide +kernel
theorem dX4_climb_83 : decode cX4_climb 83 = .ok (.aload_n 0, 1) := by decide +kernel
theorem dX4_climb_84 : decode cX4_climb 84 = .ok (.getfield 43, 3) := by decide +kernel
theorem dX4_climb_87 : decode cX4_climb 87 = .ok (.iconst 0, 1) := by decide +kernel
theorem dX4_climb_88 : decode cX4_climb 88 = .ok (.getstatic 71, 3) := by decide +kernel
theorem dX4_climb_91 : decode cX4_climb 91 = .ok (.iconst 0, 1) := by decide +kernel
theorem dX4_climb_92 : decode cX4_climb 92 = .ok (.invokevirtual 197, 3) := by decide +kernel
theorem dX4_climb_95 : decode cX4_climb 95 = .ok (.iinc 3 (-1), 3) := by decide +kernel
theorem dX4_climb_98 : decode cX4_climb 98 = .ok (.goto (-88), 3) := by decide +kernel
theorem dX4_climb_101 : decode cX4_climb 101 = .ok (.return_, 1) := by decide +kernel
end
section
def bt (x : Int32) (i : Nat) : Bool := x.toBitVec.getLsbD i
theorem b_ext {x y : Int32} (h : ∀ i, i < 32 → bt x i = bt y i) : x = y := Int32.toBitVec_inj.mp (BitVec.eq_of_getLsbD_eq (fun i hi => h i hi))
theorem b_or (x y : Int32) (i : Nat) : bt (x ||| y) i = (bt x i || bt y i) := by unfold bt; rw [Int32.toBitVec_or, BitVec.getLsbD_or]
theorem b_and (x y : Int32) (i : Nat) : bt (x &&& y) i = (bt x i && bt y i) := by unfold bt; rw [Int32.toBitVec_and, BitVec.getLsbD_and]
theorem b_xor (x y : Int32) (i : Nat) : bt (x ^^^ y) i = (bt x i ^^ bt y i) := by unfold bt; rw [Int32.toBitVec_xor, BitVec.getLsbD_xor]
theorem b_big {x : Int32} {i : Nat} (h : 32 ≤ i) : bt x i = false := BitVec.getLsbD_of_ge _ _ h
theorem b_255 (i : Nat) : bt 255 i = decide (i < 8) := by
  rcases Nat.lt_or_ge i 32 with h | h
  · exact (by decide +kernel : ∀ i, i < 32 → bt 255 i = decide (i < 8)) i h
  · rw [b_big h, decide_eq_false (by omega)]
theorem b_65535 (i : Nat) : bt 65535 i = decide (i < 16) := by
  rcases Nat.lt_or_ge i 32 with h | h
  · exact (by decide +kernel : ∀ i, i < 32 → bt 65535 i = decide (i < 16)) i h
  · rw [b_big h, decide_eq_false (by omega)]
theorem b_m1 : ∀ i, i < 32 → bt (-1) i = true := by decide +kernel
theorem b_0 (i : Nat) : bt 0 i = false := BitVec.getLsbD_zero
theorem s_l : ∀ n, n < 32 → ((nI n &&& 31).toBitVec.smod 32).toNat = n := by decide +kernel
theorem s_u : ∀ n, n < 32 → (((nI n).toUInt32 &&& Int32.toUInt32 31).toBitVec % 32).toNat = n := by decide +kernel
theorem b_shl (n : Nat) (hn : n < 32) (x : Int32) {i : Nat} (hi : i < 32) : bt (x <<< (nI n &&& 31)) i = (decide (n ≤ i) && bt x (i - n)) := by
  unfold bt
  rw [Int32.toBitVec_shiftLeft]
  show (x.toBitVec <<< ((nI n &&& 31).toBitVec.smod 32).toNat).getLsbD i = _
  rw [s_l n hn, BitVec.getLsbD_shiftLeft]
  rcases Nat.lt_or_ge i n with h | h
  · simp [h, Nat.not_le.mpr h]
  · simp [hi, h, Nat.not_lt.mpr h]
theorem b_ushr (n : Nat) (hn : n < 32) (x : Int32) (i : Nat) : bt ((x.toUInt32 >>> ((nI n).toUInt32 &&& Int32.toUInt32 31)).toInt32) i = bt x (n + i) := by
  show (x.toUInt32 >>> ((nI n).toUInt32 &&& Int32.toUInt32 31)).toBitVec.getLsbD i = x.toUInt32.toBitVec.getLsbD (n + i)
  rw [UInt32.toBitVec_shiftRight]
  show (x.toUInt32.toBitVec >>> (((nI n).toUInt32 &&& Int32.toUInt32 31).toBitVec % 32).toNat).getLsbD i = _
  rw [s_u n hn, BitVec.getLsbD_ushiftRight]
theorem b_sshr (n : Nat) (hn : n < 32) (x : Int32) {i : Nat} (hi : i < 32) : bt (x >>> (nI n &&& 31)) i = if n + i < 32 then bt x (n + i) else bt x 31 := by
  unfold bt
  rw [Int32.toBitVec_shiftRight]
  show (x.toBitVec.sshiftRight ((nI n &&& 31).toBitVec.smod 32).toNat).getLsbD i = _
  rw [s_l n hn, BitVec.getLsbD_sshiftRight, BitVec.msb_eq_getLsbD_last]
  simp [hi]
theorem b_shl8 (x : Int32) {i : Nat} (hi : i < 32) : bt (x <<< ((8 : Int32) &&& 31)) i = (decide (8 ≤ i) && bt x (i - 8)) := b_shl 8 (by omega) x hi
theorem b_shl16 (x : Int32) {i : Nat} (hi : i < 32) : bt (x <<< ((16 : Int32) &&& 31)) i = (decide (16 ≤ i) && bt x (i - 16)) := b_shl 16 (by omega) x hi
theorem b_shl24 (x : Int32) {i : Nat} (hi : i < 32) : bt (x <<< ((24 : Int32) &&& 31)) i = (decide (24 ≤ i) && bt x (i - 24)) := b_shl 24 (by omega) x hi
theorem b_sshr8 (x : Int32) {i : Nat} (hi : i < 32) : bt (x >>> ((8 : Int32) &&& 31)) i = if 8 + i < 32 then bt x (8 + i) else bt x 31 := b_sshr 8 (by omega) x hi
theorem bp_b (x : Int32) : x.toInt8.toInt32 &&& 255 = x &&& 255 := by
  apply Int32.toBitVec_inj.mp
  rw [Int32.toBitVec_and, Int32.toBitVec_and, Int8.toBitVec_toInt32, Int32.toBitVec_toInt8]
  apply BitVec.eq_of_getLsbD_eq
  intro i hi
  rw [BitVec.getLsbD_and, BitVec.getLsbD_and]
  have hm : ∀ i < 32, 8 ≤ i → (255 : Int32).toBitVec.getLsbD i = false := by decide
  rcases Nat.lt_or_ge i 8 with z | z
  · rw [BitVec.getLsbD_signExtend, BitVec.getLsbD_signExtend, if_pos z, if_pos hi]
    simp only [z, hi, decide_true, Bool.true_and]
  · rw [hm i hi z]; simp
theorem wb_tb (n : Nat) : (lN n).toBitVec = BitVec.ofNat 64 n := rfl
theorem wb_inj {a b : Int64} (h : a.toBitVec = b.toBitVec) : a = b := Int64.toBitVec_inj.mp h
theorem wb_tn {n : Nat} (h : n < 2 ^ 64) : (lN n).toBitVec.toNat = n := by rw [wb_tb, BitVec.toNat_ofNat, Nat.mod_eq_of_lt h]
theorem wb_of (x : Int64) : ∃ n, n < 2 ^ 64 ∧ x = lN n := ⟨x.toBitVec.toNat, x.toBitVec.isLt, wb_inj (by rw [wb_tb]; simp)⟩
theorem wb_of32 (x : Int32) : ∃ n, n < 2 ^ 32 ∧ x = nI n := ⟨x.toBitVec.toNat, x.toBitVec.isLt, Int32.toBitVec_inj.mp (by show _ = BitVec.ofNat 32 _; simp)⟩
theorem wb_c : ∀ k, k < 64 → ((nI k).toInt64 &&& 63) = lN k := by decide +kernel
theorem wb_cu : ∀ k, k < 64 → ((nI k).toInt64.toUInt64 &&& Int64.toUInt64 63) = UInt64.ofNat k := by decide +kernel
theorem wb_sm : ∀ k, k < 64 → (BitVec.ofNat 64 k).smod 64 = BitVec.ofNat 64 k := by decide +kernel
theorem wb_pw {a b : Nat} (h : a ≤ b) : 2 ^ b = 2 ^ a * 2 ^ (b - a) := by rw [← Nat.pow_add]; congr 1; omega
theorem wb_lt2 {a b : Nat} (h : a < b) : 2 ^ a < 2 ^ b := Nat.pow_lt_pow_right (by decide) h
theorem wb_mod (n : Nat) : lN n = lN (n % 2 ^ 64) := wb_inj (by rw [wb_tb, wb_tb]; apply BitVec.eq_of_toNat_eq; rw [BitVec.toNat_ofNat, BitVec.toNat_ofNat, Nat.mod_mod])
theorem wb_shr {n k : Nat} (hn : n < 2 ^ 64) (hk : k < 64) : ((lN n).toUInt64 >>> ((nI k).toInt64.toUInt64 &&& Int64.toUInt64 63)).toInt64 = lN (n / 2 ^ k) := by
  rw [wb_cu k hk]
  apply wb_inj
  apply BitVec.eq_of_toNat_eq
  show ((lN n).toUInt64 >>> UInt64.ofNat k).toNat = (BitVec.ofNat 64 _).toNat
  have h1 : (UInt64.ofNat k).toNat = k := by
    show (BitVec.ofNat 64 k).toNat = k
    rw [BitVec.toNat_ofNat, Nat.mod_eq_of_lt (by omega)]
  have h2 : (lN n).toUInt64.toNat = n := wb_tn hn
  rw [UInt64.toNat_shiftRight, h1, h2, Nat.mod_eq_of_lt hk, Nat.shiftRight_eq_div_pow, BitVec.toNat_ofNat, Nat.mod_eq_of_lt (Nat.lt_of_le_of_lt (Nat.div_le_self _ _) hn)]
theorem wb_shl (n : Nat) {k : Nat} (hk : k < 64) : lN n <<< ((nI k).toInt64 &&& 63) = lN (n * 2 ^ k) := by
  rw [wb_c k hk]
  apply wb_inj
  rw [Int64.toBitVec_shiftLeft, wb_tb, wb_tb, wb_tb, wb_sm k hk]
  apply BitVec.eq_of_toNat_eq
  rw [BitVec.shiftLeft_eq', BitVec.toNat_shiftLeft, BitVec.toNat_ofNat, BitVec.toNat_ofNat, BitVec.toNat_ofNat, Nat.mod_eq_of_lt (show k < 2 ^ 64 by omega), Nat.shiftLeft_eq, Nat.mul_mod, Nat.mod_mod, ← Nat.mul_mod]
theorem wb_and {a b : Nat} (ha : a < 2 ^ 64) (hb : b < 2 ^ 64) : lN a &&& lN b = lN (a &&& b) := by
  apply wb_inj
  rw [Int64.toBitVec_and, wb_tb, wb_tb, wb_tb]
  apply BitVec.eq_of_toNat_eq
  rw [BitVec.toNat_and, BitVec.toNat_ofNat, BitVec.toNat_ofNat, BitVec.toNat_ofNat, Nat.mod_eq_of_lt ha, Nat.mod_eq_of_lt hb, Nat.mod_eq_of_lt (Nat.and_lt_two_pow _ hb)]
theorem wb_or {a b : Nat} (ha : a < 2 ^ 64) (hb : b < 2 ^ 64) : lN a ||| lN b = lN (a ||| b) := by
  apply wb_inj
  rw [Int64.toBitVec_or, wb_tb, wb_tb, wb_tb]
  apply BitVec.eq_of_toNat_eq
  rw [BitVec.toNat_or, BitVec.toNat_ofNat, BitVec.toNat_ofNat, BitVec.toNat_ofNat, Nat.mod_eq_of_lt ha, Nat.mod_eq_of_lt hb, Nat.mod_eq_of_lt (Nat.or_lt_two_pow ha hb)]
theorem wb_mask {n k : Nat} (hn : n < 2 ^ 64) (hk : k < 64) : lN n &&& lN (2 ^ k - 1) = lN (n % 2 ^ k) := by
  rw [wb_and hn (by have := wb_lt2 hk; omega), Nat.and_two_pow_sub_one_eq_mod]
theorem wb_a1 {n : Nat} (hn : n < 2 ^ 64) : lN n &&& 1 = lN (n % 2) := wb_mask (k := 1) hn (by decide)
theorem wb_bit {n k : Nat} (hn : n < 2 ^ 64) (hk : k < 64) : ((lN n).toUInt64 >>> ((nI k).toInt64.toUInt64 &&& Int64.toUInt64 63)).toInt64 &&& 1 = lN (n / 2 ^ k % 2) := by
  rw [wb_shr hn hk, wb_a1 (Nat.lt_of_le_of_lt (Nat.div_le_self _ _) hn)]
theorem wb_xor {q k : Nat} (hk : k < 63) (h : 2 ^ k ≤ q) (h2 : q < 2 ^ (k + 1)) : lN q ^^^ lN (2 ^ k) = lN (q - 2 ^ k) := by
  obtain ⟨r, rfl⟩ : ∃ r, q = 2 ^ k + r := ⟨q - 2 ^ k, by omega⟩
  have hr : r < 2 ^ k := by rw [Nat.pow_succ] at h2; omega
  have hx : (2 ^ k + r) ^^^ 2 ^ k = r := by
    apply Nat.eq_of_testBit_eq
    intro i
    rw [Nat.testBit_xor, Nat.testBit_two_pow]
    rcases Nat.lt_trichotomy i k with h | h | h
    · rw [Nat.testBit_two_pow_add_gt h]
      simp [show ¬ k = i by omega]
    · subst h
      rw [Nat.testBit_two_pow_add_eq]
      simp
    · have a1 : 2 ^ (k + 1) ≤ 2 ^ i := Nat.pow_le_pow_right (by decide) h
      rw [Nat.testBit_lt_two_pow (show 2 ^ k + r < 2 ^ i by omega), Nat.testBit_lt_two_pow (show r < 2 ^ i by omega)]
      simp [show ¬ k = i by omega]
  have b1 := wb_lt2 (show k + 1 < 64 by omega)
  have b2 := wb_lt2 (show k < 64 by omega)
  apply wb_inj
  rw [Int64.toBitVec_xor, wb_tb, wb_tb, wb_tb]
  apply BitVec.eq_of_toNat_eq
  rw [BitVec.toNat_xor, BitVec.toNat_ofNat, BitVec.toNat_ofNat, BitVec.toNat_ofNat, Nat.mod_eq_of_lt (by omega : 2 ^ k + r < 2 ^ 64), Nat.mod_eq_of_lt b2, hx, Nat.add_sub_cancel_left, Nat.mod_eq_of_lt (by omega)]
end
section
abbrev TYS (cy : Nat → ClassId) : List (ClassId × FieldType) := [(cy 0, .int), (cy 1, .byte), (cy 2, .boolean), (cy 3, .object RX0), (cy 4, .object RX1)]
/-- START and ORDER -/
def stA : Nat → Int32 := fun k => match k with
  | 0 => 1779033703 | 1 => -1150833019 | 2 => 1013904242 | 3 => -1521486534 | 4 => 1359893119 | 5 => -1694144372 | 6 => 528734635 | _ => 1541459225
def orN : Nat → Nat := fun k => match k with
  | 0 => 2 | 1 => 6 | 2 => 3 | 3 => 10 | 4 => 7 | 5 => 0 | 6 => 4 | 7 => 13 | 8 => 1 | 9 => 11 | 10 => 12 | 11 => 5 | 12 => 9 | 13 => 14 | 14 => 15 | _ => 8
/-- words on nest mates that contracts hand on -/
def nestF : List (String × Nat × String × String × String × String) := [("TreeHashes", 104, "TreeHashes$Hasher", "mix", "LTreeHashes$Mix;", "TreeHashes"), ("TreeHashes", 116, "TreeHashes$Hasher", "mode", "I", "TreeHashes"), ("TreeHashes", 119, "TreeHashes$Hasher", "closed", "I", "TreeHashes"), ("TreeHashes", 122, "TreeHashes$Hasher", "depth", "I", "TreeHashes"), ("TreeHashes", 157, "TreeHashes$Way", "levels", "I", "TreeHashes"), ("TreeHashes", 160, "TreeHashes$Way", "otherFirst", "[I", "TreeHashes"), ("TreeHashes", 163, "TreeHashes$Way", "otherChunks", "[I", "TreeHashes"), ("TreeHashes", 57, "TreeHashes$Bytes", "count", "I", "TreeHashes"), ("TreeHashes", 89, "TreeHashes$Hasher", "taken", "I", "TreeHashes")]
def nestM : List (String × Nat × MethodName × String) := [("TreeHashes", 38, yX3_init, "TreeHashes"), ("TreeHashes$Hasher", 13, yX2_init, "TreeHashes")]
def Nst (U : State) : Prop := (∀ q ∈ nestF, va_Nw (.fieldLinkNest q.1 q.2.1 q.2.2.1 q.2.2.2.1 q.2.2.2.2.1 q.2.2.2.2.2) U) ∧ ∀ q ∈ nestM, va_Nw (.methodLinkNest q.1 q.2.1 q.2.2.1 q.2.2.2) U
theorem Nst.warm {s U : State} (hW : s.WarmedH U.vm) (h : Nst s) : Nst U := ⟨fun q hq => va_Nw.warmF hW (h.1 q hq), fun q hq => va_Nw.warmM hW (h.2 q hq)⟩
theorem va_Nw.call {w : Cond} (hw : w.onTables = true) {U : State} {g : JFrame} {mk : MethodId} {a : Array Value} (h : va_Nw w U) : va_Nw w (U.calling g mk a) := va_tabs hw (show U.vm = (U.calling g mk a).vm from rfl) h
/-- the constants of the class, and the nest words: what every contract takes as given -/
def Stat (t : Nat × Nat) (A : Nat → Prop) (U : State) (H : Heap) : Prop :=
  (va_Z RX2 "START" "[I" (.ref t.1) A U H ∧ va_T .int t.1 8 (fun k => .int (stA k)) A U H) ∧ (va_Z RX2 "ORDER" "[I" (.ref t.2) A U H ∧ va_T .int t.2 16 (fun k => .int (nI (orN k))) A U H) ∧ Nst U
theorem Stat.to {t : Nat × Nat} {A B : Nat → Prop} {s U : State} {H : Heap} (h : Stat t A s s.heap) (hk : ∀ a : Nat, a < s.heap.size → ¬ A a → H[a]? = s.heap[a]?) (hB : ∀ q, B q → A q) (hW : s.WarmedH U.vm) : Stat t B U H := by
  obtain ⟨⟨h1, h2⟩, ⟨h3, h4⟩, h5⟩ := h
  exact ⟨⟨((h1.kept hk).narrow hB).moved hW.alike, ((h2.kept hk).narrow hB).moved hW.alike⟩, ⟨((h3.kept hk).narrow hB).moved hW.alike, ((h4.kept hk).narrow hB).moved hW.alike⟩, h5.warm hW⟩
theorem Nst.call {U : State} {g : JFrame} {mk : MethodId} {a : Array Value} (h : Nst U) : Nst (U.calling g mk a) := ⟨fun q hq => va_Nw.call rfl (h.1 q hq), fun q hq => va_Nw.call rfl (h.2 q hq)⟩
theorem Stat.call {t : Nat × Nat} {A : Nat → Prop} {U : State} {H : Heap} {g : JFrame} {mk : MethodId} {a : Array Value} (h : Stat t A U H) : Stat t A (U.calling g mk a) H := by
  obtain ⟨⟨h1, h2⟩, ⟨h3, h4⟩, h5⟩ := h
  exact ⟨⟨va_Z.moved (u := U) (U := U.calling g mk a) (Vm.Alike.refl U.vm) h1, va_T.moved (u := U) (U := U.calling g mk a) (Vm.Alike.refl U.vm) h2⟩, ⟨va_Z.moved (u := U) (U := U.calling g mk a) (Vm.Alike.refl U.vm) h3, va_T.moved (u := U) (U := U.calling g mk a) (Vm.Alike.refl U.vm) h4⟩, h5.call⟩
/-- the world now -/
def Wd (D : va_G) (A : Nat → Prop) (s : State) (ws : va_W) (H : Heap) (locs : List Loc) : Prop := va_P D vwCl ws H ∧ va_D A ws ∧ va_S A s.heap H locs
/-- a contract's start -/
def PcW (D : va_G) (cy : Nat → ClassId) (t : Nat × Nat) (ws : va_W) (av : List Value) (sz : Nat) : Array Value → State → Prop :=
  va_Pc av (fun U => U.heap.size = sz ∧ va_P D vwCl ws U.heap ∧ va_K D vwCl (TYS cy) U ∧ va_D (fun _ => True) ws ∧ Stat t (va_A ws sz) U U.heap)
def BW (D : va_G) (cy : Nat → ClassId) (A : Nat → Prop) (ws : va_W) (U : State) : Prop := va_P D vwCl ws U.heap ∧ va_K D vwCl (TYS cy) U ∧ va_D A ws
def QiA (D : va_G) (cy : Nat → ClassId) {S : Type} (post : Int32 → S → Prop) (w1 : S → va_W) (A : Nat → Prop) : Array Value → State → Outcome → State → Prop := va_Qi post (fun u t => BW D cy A (w1 u) t) A
def QvA (D : va_G) (cy : Nat → ClassId) {S : Type} (post : S → Prop) (w1 : S → va_W) (A : Nat → Prop) : Array Value → State → Outcome → State → Prop := va_Qv post (fun u t => BW D cy A (w1 u) t) A
theorem PcW.blind {D : va_G} {cy : Nat → ClassId} {t : Nat × Nat} {ws : va_W} {av : List Value} {sz : Nat} : FrameBlind (PcW D cy t ws av sz) := by
  intro a U g mk q
  obtain ⟨q0, q1, qP, qK, qD, qS⟩ := q
  exact ⟨q0, q1, qP, va_K.moved (u := U) (U := U.calling g mk a) (Vm.Alike.refl U.vm) qK, qD, qS.call⟩
/-- a contract out of the walk of its body -/
theorem M_ofW {l : Launch} {y : MethodName} {ws ws' : List Cond} {rm : Room} {cc : ByteArray} {maxL : Nat} {ret : Option FieldType} {D : va_G} {cy : Nat → ClassId} {t : Nat × Nat} {sz : Nat} {wd : va_W} {av : List Value} {Qa : (Nat → Prop) → Array Value → State → Outcome → State → Prop} {mc ms : Nat}
    (hy : plainName y.cls = true) (hw : ws = Cond.code y cc maxL ret :: ws') (hlen : (lg_sl av).length ≤ maxL)
    (body : ∀ (p : Program) (e : Env) (s : State) (m : MethodId) (below : List Frame) (meth : Method) (c : Code) (A : Nat → Prop) (ls : Array Slot) (args : Array Value) (Q : State → Prop), Q = MQ below (Qa A) args s mc ms A → CallFix p m c cc maxL s args ws y.cls → meth.sig.returnType = ret → meth.locks = false → (meth.name = y.name) → va_K D vwCl (TYS cy) s → Stat t A s s.heap → (∀ q, s.heap.size ≤ q → A q) → Wd D A s wd s.heap [] → lv_has ls maxL (lv_args 0 av) →
      W p l e rm s m args below meth c s.heap [] 0 0 Q (F0 m 0 ls [])) : Met l y ws rm (PcW D cy t wd av sz) (Qa (va_A wd sz)) mc ms (va_A wd sz) := by
  refine Met.ofW (cc := cc) (maxL := maxL) (ret := ret) hy hw ?_
  intro p e s m args below meth c s₁ B hml hv
  obtain ⟨rfl, hsz, hP, hK, hD0, hst⟩ := hv
  have hts := atoms_spec (ws := ws) B.pre
  subst hsz
  have hD := hD0.self (sz := s.heap.size)
  have hl := lv_entry av (n := maxL) hlen
  rw [lg_entry_eq]
  exact body p e s m below meth c _ _ _ _ rfl ⟨B.exec, B.bytes, hml, findClass_of_methodNamed B.named, hts⟩ B.returns B.notSynchronized (name_of_methodNamed B.named B.method).1 hK hst (fun q h => Or.inr h) ⟨hP, hD, va_S.rf⟩ hl
/-- cells at their places, new contents -/
def putW : va_W → List Nat → va_W → va_W
  | ws, i :: is, x :: xs => putW (ws.set i x) is xs
  | ws, _, _ => ws
theorem putW_at : ∀ (is : List Nat) (xs ws : va_W), xs.length = is.length → ∀ (k : Nat) (q : Nat × va_E), (putW ws is xs)[k]? = some q → (∃ j : Nat, is[j]? = some k ∧ xs[j]? = some q) ∨ (k ∉ is ∧ ws[k]? = some q)
  | [], xs, ws, _, k, q, h => Or.inr ⟨List.not_mem_nil, by cases xs <;> exact h⟩
  | i :: is, [], ws, hl, k, q, h => by simp at hl
  | i :: is, x :: xs, ws, hl, k, q, h => by
    rcases putW_at is xs (ws.set i x) (by simpa using hl) k q h with ⟨j, h1, h2⟩ | ⟨h1, h2⟩
    · exact Or.inl ⟨j + 1, by simpa using h1, by simpa using h2⟩
    · by_cases hki : k = i
      · subst hki
        rw [List.getElem?_set] at h2
        simp only [if_true] at h2
        split at h2
        · exact Or.inl ⟨0, rfl, h2⟩
        · cases h2
      · rw [List.getElem?_set_ne (fun e => hki e.symm)] at h2
        exact Or.inr ⟨by simp [hki, h1], h2⟩
/-- behind a call: the callee's cells at their places, the others unchanged -/
theorem putW_ok {A0 : Nat → Prop} {D : va_G} {cl : List vw_C} {ws wc w1 : va_W} {H H1 : Heap} (hP : va_P D cl ws H) (hD : va_D A0 ws) (isC : List Nat) (hC : isC.map (fun i => ws[i]?) = wc.map some) (hl : w1.length = isC.length)
    (hk : ∀ q : Nat, q < H.size → ¬ va_A wc H.size q → H1[q]? = H[q]?) (hF : ∀ q, va_A wc H.size q → A0 q) (hP1 : va_P D cl w1 H1) (hD1 : va_D (va_A wc H.size) w1) : va_P D cl (putW ws isC w1) H1 ∧ va_D A0 (putW ws isC w1) := by
  have at' : ∀ (k : Nat) (q : Nat × va_E), wc[k]? = some q → ∃ i, isC[k]? = some i ∧ ws[i]? = some q := by
    intro k q hq
    have h1 : (isC.map (fun i => ws[i]?))[k]? = some (some q) := by rw [hC, List.getElem?_map, hq]; rfl
    rw [List.getElem?_map] at h1
    cases hi : isC[k]? with
    | none => rw [hi] at h1; cases h1
    | some i => rw [hi] at h1; exact ⟨i, rfl, Option.some.inj h1⟩
  have apart : ∀ (k : Nat) (q : Nat × va_E), k ∉ isC → ws[k]? = some q → q.1 < H.size ∧ ¬ va_A wc H.size q.1 := by
    intro k q hn hq
    have hlt := (hP k q hq).lt
    refine ⟨hlt, fun h => ?_⟩
    rcases h with ⟨k2, e, h⟩ | h
    · obtain ⟨j, h3, h4⟩ := at' k2 (q.1, e) h
      have hij := hD.1 k j q (q.1, e) hq h4 rfl
      subst hij
      exact hn (List.mem_of_getElem? h3)
    · omega
  refine ⟨fun k q hq => ?_, fun i j x y hx hy hxy => ?_, fun k q hq => ?_⟩
  · rcases putW_at isC w1 ws hl k q hq with ⟨j, h1, h2⟩ | ⟨h1, h2⟩
    · exact hP1 j q h2
    · obtain ⟨g1, g2⟩ := apart k q h1 h2
      exact (hP k q h2).kept (hk q.1 g1 g2)
  · rcases putW_at isC w1 ws hl i x hx with ⟨j1, h1, h2⟩ | ⟨h1, h2⟩ <;> rcases putW_at isC w1 ws hl j y hy with ⟨j2, h3, h4⟩ | ⟨h3, h4⟩
    · have := hD1.1 j1 j2 x y h2 h4 hxy
      subst this
      exact Option.some.inj (h1.symm.trans h3)
    · exact absurd (by rw [← hxy]; exact hD1.2 j1 x h2) (apart j y h3 h4).2
    · exact absurd (by rw [hxy]; exact hD1.2 j2 y h4) (apart i x h1 h2).2
    · exact hD.1 i j x y h2 h4 hxy
  · rcases putW_at isC w1 ws hl k q hq with ⟨j, h1, h2⟩ | ⟨h1, h2⟩
    · exact hF _ (hD1.2 j q h2)
    · exact hD.2 k q h2
section BASEC
variable {p : Program} {l : Launch} {e : Env} {R : Room} {s : State} {m : MethodId} {args : Array Value} {below : List Frame} {meth : Method} {c : Code} {H : Heap} {locs : List Loc} {cells slots : Nat} {Q : State → Prop}
variable {y : MethodName} {bytes cc : ByteArray} {maxL nL mc ms n index pc : Nat} {ret : Option FieldType} {wy : List Cond} {rm : Room} {Ts : List Cond} {own C : String} {b : Addr} {As rest st : List Value} {ls : Array Slot} {D : va_G} {cy : Nat → ClassId} {t : Nat × Nat} {A : Nat → Prop} {ws wc : va_W}
theorem Wd.pre (hK : va_K D vwCl (TYS cy) s) (hst : Stat t A s s.heap) (hA : ∀ q, s.heap.size ≤ q → A q) (hW : Wd D A s ws H locs) (isC : List Nat) (hC : isC.map (fun i => ws[i]?) = wc.map some) (hnd : va_nd isC = true) (av : List Value) : FrameBlind (PcW D cy t wc av H.size) ∧ ∀ U : State, U.heap = H → s.WarmedH U.vm → PcW D cy t wc av H.size av.toArray U := by
  refine ⟨PcW.blind, fun U hU hWm => ⟨rfl, by rw [hU], ?_, va_K.moved hWm.alike hK, ?_, ?_⟩⟩
  · rw [hU]
    exact hW.1.sub isC (by
      have : isC.filterMap (fun i => ws[i]?) = (isC.map (fun i => ws[i]?)).filterMap id := by rw [List.filterMap_map]; rfl
      rw [this, hC, List.filterMap_map]
      simp)
  · exact (hW.2.1.sub isC hnd hC).weaken (fun _ _ _ _ => trivial)
  · rw [hU]
    exact hst.to hW.2.2.2.1 (va_free hW.2.1 hW.2.2 hA isC hC) hWm
theorem k_back {S : Type} {w1 : S → va_W} {u : S} {U : State} {H1 : Heap} {locs1 : List Loc} (hA : ∀ q, s.heap.size ≤ q → A q) (hW : Wd D A s ws H locs) (isC : List Nat) (hC : isC.map (fun i => ws[i]?) = wc.map some) (hl : ∀ u, (w1 u).length = isC.length) (ht : U.heap = H1) (hB : BW D cy (va_A wc H.size) (w1 u) U) (hk1 : ∀ q : Nat, q < H.size → ¬ va_A wc H.size q → H1[q]? = H[q]?) (hS : va_S A s.heap H1 locs1) : Wd D A s (putW ws isC (w1 u)) H1 locs1 := by
  obtain ⟨hP1, -, hD1⟩ := hB
  rw [ht] at hP1
  obtain ⟨a1, a2⟩ := putW_ok hW.1 hW.2.1 isC hC (hl u) hk1 (va_free hW.2.1 hW.2.2 hA isC hC) hP1 hD1
  exact ⟨a1, a2, hS⟩
/-- invokevirtual, an int -/
theorem kVi {S : Type} {post : Int32 → S → Prop} {w1 : S → va_W} (S0 : CallFix p m c cc nL s args Ts own) (hK : va_K D vwCl (TYS cy) s) (hst : Stat t A s s.heap) (hA : ∀ q, s.heap.size ≤ q → A q) (hW : Wd D A s ws H locs) (isC : List Nat) (hM : ∀ sz, Met l y wy rm (PcW D cy t wc (.ref b :: As) sz) (QiA D cy post w1 (va_A wc sz)) mc ms (va_A wc sz)) (hC : isC.map (fun i => ws[i]?) = wc.map some) (hnd : va_nd isC = true) (cw : CallW R s args own C index y bytes maxL ret wy rm mc ms n) (hl : ∀ u, (w1 u).length = isC.length)
    (k0 ci : Nat) {fs : List Value} {T : u_T} {N : Nat} (he : wc[k0]? = some (b, .inr (ci, fs))) (hc : vwCl[ci]? = some (C, T, N)) (hn : As.length = n) (hsize : ls.size = nL) (hst0 : st = As.reverse ++ .ref b :: rest) (hroom : (rest.map fun v => v.category).sum ≤ 8) (hdg : decode cc pc = .ok (.invokevirtual index, 3)) (hf : cells + mc ≤ R.cells ∧ slots + ms ≤ R.slots)
    (kk : ∀ (r : Int32) (u : S) (H1 : Heap) (locs1 : List Loc), post r u → Wd D A s (putW ws isC (w1 u)) H1 locs1 → W p l e R s m args below meth c H1 locs1 (cells + mc) (slots + ms) Q (F0 m (pc + 3) ls (.int r :: rest))) : W p l e R s m args below meth c H locs cells slots Q (F0 m pc ls st) := by
  obtain ⟨pb, pp⟩ := Wd.pre (cy := cy) (t := t) hK hst hA hW isC hC hnd (.ref b :: As)
  have hPc : va_P D vwCl wc H := fun k q hq => by
    have h1 : (isC.map (fun i => ws[i]?))[k]? = some (some q) := by rw [hC, List.getElem?_map, hq]; rfl
    rw [List.getElem?_map] at h1
    cases hi : isC[k]? with
    | none => rw [hi] at h1; cases h1
    | some i => rw [hi] at h1; exact hW.1 i q (Option.some.inj h1)
  have hFc := va_free hW.2.1 hW.2.2 hA isC hC
  exact va_calli (va_runV S0 (hM H.size) cw ⟨pb, va_recv hK hPc hc he, pp⟩ rfl hn hsize hst0 (lv_room (m := m) (pc := pc) (ls := ls) (rest := st) hroom) hdg hf) hW.2.2 (fun q _ h => hFc q h) hFc (fun r u U H1 locs1 ht hvm hp hB hz1 hk1 hS => kk r u H1 locs1 hp (k_back hA hW isC hC hl ht hB hk1 hS))
/-- invokevirtual, void -/
theorem kVv {S : Type} {post : S → Prop} {w1 : S → va_W} (S0 : CallFix p m c cc nL s args Ts own) (hK : va_K D vwCl (TYS cy) s) (hst : Stat t A s s.heap) (hA : ∀ q, s.heap.size ≤ q → A q) (hW : Wd D A s ws H locs) (isC : List Nat) (hM : ∀ sz, Met l y wy rm (PcW D cy t wc (.ref b :: As) sz) (QvA D cy post w1 (va_A wc sz)) mc ms (va_A wc sz)) (hC : isC.map (fun i => ws[i]?) = wc.map some) (hnd : va_nd isC = true) (cw : CallW R s args own C index y bytes maxL ret wy rm mc ms n) (hl : ∀ u, (w1 u).length = isC.length)
    (k0 ci : Nat) {fs : List Value} {T : u_T} {N : Nat} (he : wc[k0]? = some (b, .inr (ci, fs))) (hc : vwCl[ci]? = some (C, T, N)) (hn : As.length = n) (hsize : ls.size = nL) (hst0 : st = As.reverse ++ .ref b :: rest) (hroom : (rest.map fun v => v.category).sum ≤ 8) (hdg : decode cc pc = .ok (.invokevirtual index, 3)) (hf : cells + mc ≤ R.cells ∧ slots + ms ≤ R.slots)
    (kk : ∀ (u : S) (H1 : Heap) (locs1 : List Loc), post u → Wd D A s (putW ws isC (w1 u)) H1 locs1 → W p l e R s m args below meth c H1 locs1 (cells + mc) (slots + ms) Q (F0 m (pc + 3) ls rest)) : W p l e R s m args below meth c H locs cells slots Q (F0 m pc ls st) := by
  obtain ⟨pb, pp⟩ := Wd.pre (cy := cy) (t := t) hK hst hA hW isC hC hnd (.ref b :: As)
  have hPc : va_P D vwCl wc H := fun k q hq => by
    have h1 : (isC.map (fun i => ws[i]?))[k]? = some (some q) := by rw [hC, List.getElem?_map, hq]; rfl
    rw [List.getElem?_map] at h1
    cases hi : isC[k]? with
    | none => rw [hi] at h1; cases h1
    | some i => rw [hi] at h1; exact hW.1 i q (Option.some.inj h1)
  have hFc := va_free hW.2.1 hW.2.2 hA isC hC
  exact va_callv (va_runV S0 (hM H.size) cw ⟨pb, va_recv hK hPc hc he, pp⟩ rfl hn hsize hst0 (lv_room (m := m) (pc := pc) (ls := ls) (rest := st) hroom) hdg hf) hW.2.2 (fun q _ h => hFc q h) hFc (fun u U H1 locs1 ht hvm hp hB hz1 hk1 hS => kk u H1 locs1 hp (k_back hA hW isC hC hl ht hB hk1 hS))
/-- invokestatic, an int -/
theorem kSi {S : Type} {post : Int32 → S → Prop} {w1 : S → va_W} (S0 : CallFix p m c cc nL s args Ts own) (hK : va_K D vwCl (TYS cy) s) (hst : Stat t A s s.heap) (hA : ∀ q, s.heap.size ≤ q → A q) (hW : Wd D A s ws H locs) (isC : List Nat) (hM : ∀ sz, Met l y wy rm (PcW D cy t wc As sz) (QiA D cy post w1 (va_A wc sz)) mc ms (va_A wc sz)) (hC : isC.map (fun i => ws[i]?) = wc.map some) (hnd : va_nd isC = true) (cw : CallB R s args own index y bytes maxL ret wy rm mc ms n ∧ (Cond.static y).before args s = true) (hl : ∀ u, (w1 u).length = isC.length)
    (hn : As.length = n) (hsize : ls.size = nL) (hst0 : st = As.reverse ++ rest) (hroom : (rest.map fun v => v.category).sum ≤ 8) (hdg : decode cc pc = .ok (.invokestatic index, 3)) (hf : cells + mc ≤ R.cells ∧ slots + ms ≤ R.slots)
    (kk : ∀ (r : Int32) (u : S) (H1 : Heap) (locs1 : List Loc), post r u → Wd D A s (putW ws isC (w1 u)) H1 locs1 → W p l e R s m args below meth c H1 locs1 (cells + mc) (slots + ms) Q (F0 m (pc + 3) ls (.int r :: rest))) : W p l e R s m args below meth c H locs cells slots Q (F0 m pc ls st) := by
  obtain ⟨pb, pp⟩ := Wd.pre (cy := cy) (t := t) hK hst hA hW isC hC hnd As
  have hFc := va_free hW.2.1 hW.2.2 hA isC hC
  exact va_calli (va_runS S0 (hM H.size) cw ⟨pb, pp⟩ rfl hn hsize hst0 (lv_room (m := m) (pc := pc) (ls := ls) (rest := st) hroom) hdg hf) hW.2.2 (fun q _ h => hFc q h) hFc (fun r u U H1 locs1 ht hvm hp hB hz1 hk1 hS => kk r u H1 locs1 hp (k_back hA hW isC hC hl ht hB hk1 hS))
theorem kSv {S : Type} {post : S → Prop} {w1 : S → va_W} (S0 : CallFix p m c cc nL s args Ts own) (hK : va_K D vwCl (TYS cy) s) (hst : Stat t A s s.heap) (hA : ∀ q, s.heap.size ≤ q → A q) (hW : Wd D A s ws H locs) (isC : List Nat) (hM : ∀ sz, Met l y wy rm (PcW D cy t wc As sz) (QvA D cy post w1 (va_A wc sz)) mc ms (va_A wc sz)) (hC : isC.map (fun i => ws[i]?) = wc.map some) (hnd : va_nd isC = true) (cw : CallB R s args own index y bytes maxL ret wy rm mc ms n ∧ (Cond.static y).before args s = true) (hl : ∀ u, (w1 u).length = isC.length)
    (hn : As.length = n) (hsize : ls.size = nL) (hst0 : st = As.reverse ++ rest) (hroom : (rest.map fun v => v.category).sum ≤ 8) (hdg : decode cc pc = .ok (.invokestatic index, 3)) (hf : cells + mc ≤ R.cells ∧ slots + ms ≤ R.slots)
    (kk : ∀ (u : S) (H1 : Heap) (locs1 : List Loc), post u → Wd D A s (putW ws isC (w1 u)) H1 locs1 → W p l e R s m args below meth c H1 locs1 (cells + mc) (slots + ms) Q (F0 m (pc + 3) ls rest)) : W p l e R s m args below meth c H locs cells slots Q (F0 m pc ls st) := by
  obtain ⟨pb, pp⟩ := Wd.pre (cy := cy) (t := t) hK hst hA hW isC hC hnd As
  have hFc := va_free hW.2.1 hW.2.2 hA isC hC
  exact va_callv (va_runS S0 (hM H.size) cw ⟨pb, pp⟩ rfl hn hsize hst0 (lv_room (m := m) (pc := pc) (ls := ls) (rest := st) hroom) hdg hf) hW.2.2 (fun q _ h => hFc q h) hFc (fun u U H1 locs1 ht hvm hp hB hz1 hk1 hS => kk u H1 locs1 hp (k_back hA hW isC hC hl ht hB hk1 hS))
/-- a value on the stack by another term -/
theorem tI {x x' : Int32} (e1 : x = x') (k : W p l e R s m args below meth c H locs cells slots Q (F0 m pc ls (.int x' :: rest))) : W p l e R s m args below meth c H locs cells slots Q (F0 m pc ls (.int x :: rest)) := e1 ▸ k
theorem tL {x x' : Int64} (e1 : x = x') (k : W p l e R s m args below meth c H locs cells slots Q (F0 m pc ls (.long x' :: rest))) : W p l e R s m args below meth c H locs cells slots Q (F0 m pc ls (.long x :: rest)) := e1 ▸ k
/-- ends -/
theorem eI {S : Type} {post : Int32 → S → Prop} {w1 : S → va_W} {v : Int32} (hQ : Q = MQ below (QiA D cy post w1 A) args s cells slots A) (hx : p.tables.exec = Jvm.exec) (hb : c.code = cc) (hr : meth.sig.returnType = some .int) (hlocks : meth.locks = false) (hK : va_K D vwCl (TYS cy) s) (hW : Wd D A s ws H locs) (u : S) (hp : post v u) (hw : w1 u = ws) (hdg : decode cc pc = .ok (.ireturn, 1)) : W p l e R s m args below meth c H locs cells slots Q (F0 m pc ls [.int v]) :=
  hQ ▸ W.iret hx hb hr (fun t ht hWm => ⟨⟨v, u, rfl, hp, by rw [ht, hw]; exact hW.1, va_K.moved hWm.alike hK, by rw [hw]; exact hW.2.1⟩, hW.2.2.F ht⟩) hW.2.2.2.2 hdg hlocks
theorem eZ {S : Type} {post : Int32 → S → Prop} {w1 : S → va_W} {v : Int32} (hQ : Q = MQ below (QiA D cy post w1 A) args s cells slots A) (hx : p.tables.exec = Jvm.exec) (hb : c.code = cc) (hr : meth.sig.returnType = some .boolean) (hlocks : meth.locks = false) (hK : va_K D vwCl (TYS cy) s) (hW : Wd D A s ws H locs) (u : S) (hp : post v u) (hw : w1 u = ws) (hv : v = 0 ∨ v = 1) (hdg : decode cc pc = .ok (.ireturn, 1)) : W p l e R s m args below meth c H locs cells slots Q (F0 m pc ls [.int v]) :=
  hQ ▸ W.zret hx hb hr (by rcases hv with rfl | rfl <;> rfl) (fun t ht hWm => ⟨⟨v, u, rfl, hp, by rw [ht, hw]; exact hW.1, va_K.moved hWm.alike hK, by rw [hw]; exact hW.2.1⟩, hW.2.2.F ht⟩) hW.2.2.2.2 hdg hlocks
theorem eV {S : Type} {post : S → Prop} {w1 : S → va_W} (hQ : Q = MQ below (QvA D cy post w1 A) args s cells slots A) (hx : p.tables.exec = Jvm.exec) (hb : c.code = cc) (hr : meth.sig.returnType = none) (hlocks : meth.locks = false) (hK : va_K D vwCl (TYS cy) s) (hW : Wd D A s ws H locs) (u : S) (hp : post u) (hw : w1 u = ws) (hdg : decode cc pc = .ok (.return_, 1)) : W p l e R s m args below meth c H locs cells slots Q (F0 m pc ls []) :=
  hQ ▸ W.vret hx hb hr (fun t ht hWm => ⟨⟨u, rfl, hp, by rw [ht, hw]; exact hW.1, va_K.moved hWm.alike hK, by rw [hw]; exact hW.2.1⟩, hW.2.2.F ht⟩) hW.2.2.2.2 hdg hlocks
/-- compares of numbers -/
theorem iGe {a b : Nat} (hx : p.tables.exec = Jvm.exec) (hb : c.code = cc) {off : Int} {tgt : Nat} (hdg : decode cc pc = .ok (.if_icmp .ge off, 3)) (ht : (pc : Int) + off = (tgt : Int)) (h1 : a < 2 ^ 31) (h2 : b < 2 ^ 31) (kt : b ≤ a → W p l e R s m args below meth c H locs cells slots Q (F0 m tgt ls rest)) (kf : a < b → W p l e R s m args below meth c H locs cells slots Q (F0 m (pc + 3) ls rest)) : W p l e R s m args below meth c H locs cells slots Q (F0 m pc ls (.int (nI b) :: .int (nI a) :: rest)) :=
  lv_icmp_ge hx hb hdg ht (fun h => kt ((nI_leI h2 h1).mp h)) (fun h => kf (Nat.not_le.mp fun q => h ((nI_leI h2 h1).mpr q)))
theorem iGt {a b : Nat} (hx : p.tables.exec = Jvm.exec) (hb : c.code = cc) {off : Int} {tgt : Nat} (hdg : decode cc pc = .ok (.if_icmp .gt off, 3)) (ht : (pc : Int) + off = (tgt : Int)) (h1 : a < 2 ^ 31) (h2 : b < 2 ^ 31) (kt : b < a → W p l e R s m args below meth c H locs cells slots Q (F0 m tgt ls rest)) (kf : a ≤ b → W p l e R s m args below meth c H locs cells slots Q (F0 m (pc + 3) ls rest)) : W p l e R s m args below meth c H locs cells slots Q (F0 m pc ls (.int (nI b) :: .int (nI a) :: rest)) :=
  lv_icmp_gt hx hb hdg ht (fun h => kt ((nI_ltI h2 h1).mp h)) (fun h => kf (Nat.not_lt.mp fun q => h ((nI_ltI h2 h1).mpr q)))
theorem iLt {a b : Nat} (hx : p.tables.exec = Jvm.exec) (hb : c.code = cc) {off : Int} {tgt : Nat} (hdg : decode cc pc = .ok (.if_icmp .lt off, 3)) (ht : (pc : Int) + off = (tgt : Int)) (h1 : a < 2 ^ 31) (h2 : b < 2 ^ 31) (kt : a < b → W p l e R s m args below meth c H locs cells slots Q (F0 m tgt ls rest)) (kf : b ≤ a → W p l e R s m args below meth c H locs cells slots Q (F0 m (pc + 3) ls rest)) : W p l e R s m args below meth c H locs cells slots Q (F0 m pc ls (.int (nI b) :: .int (nI a) :: rest)) :=
  lv_icmp_lt hx hb hdg ht (fun h => kt ((nI_ltI h1 h2).mp h)) (fun h => kf (Nat.not_lt.mp fun q => h ((nI_ltI h1 h2).mpr q)))
theorem iLe {a b : Nat} (hx : p.tables.exec = Jvm.exec) (hb : c.code = cc) {off : Int} {tgt : Nat} (hdg : decode cc pc = .ok (.if_icmp .le off, 3)) (ht : (pc : Int) + off = (tgt : Int)) (h1 : a < 2 ^ 31) (h2 : b < 2 ^ 31) (kt : a ≤ b → W p l e R s m args below meth c H locs cells slots Q (F0 m tgt ls rest)) (kf : b < a → W p l e R s m args below meth c H locs cells slots Q (F0 m (pc + 3) ls rest)) : W p l e R s m args below meth c H locs cells slots Q (F0 m pc ls (.int (nI b) :: .int (nI a) :: rest)) :=
  lv_icmp_le hx hb hdg ht (fun h => kt ((nI_leI h1 h2).mp h)) (fun h => kf (Nat.not_le.mp fun q => h ((nI_leI h1 h2).mpr q)))
theorem iEq {a b : Nat} (hx : p.tables.exec = Jvm.exec) (hb : c.code = cc) {off : Int} {tgt : Nat} (hdg : decode cc pc = .ok (.if_icmp .eq off, 3)) (ht : (pc : Int) + off = (tgt : Int)) (h1 : a < 2 ^ 31) (h2 : b < 2 ^ 31) (kt : a = b → W p l e R s m args below meth c H locs cells slots Q (F0 m tgt ls rest)) (kf : a ≠ b → W p l e R s m args below meth c H locs cells slots Q (F0 m (pc + 3) ls rest)) : W p l e R s m args below meth c H locs cells slots Q (F0 m pc ls (.int (nI b) :: .int (nI a) :: rest)) :=
  lv_icmp_eq hx hb hdg ht (fun h => kt ((nI_eq h1 h2).mp h)) (fun h => kf fun q => h ((nI_eq h1 h2).mpr q))
theorem iNe {a b : Nat} (hx : p.tables.exec = Jvm.exec) (hb : c.code = cc) {off : Int} {tgt : Nat} (hdg : decode cc pc = .ok (.if_icmp .ne off, 3)) (ht : (pc : Int) + off = (tgt : Int)) (h1 : a < 2 ^ 31) (h2 : b < 2 ^ 31) (kt : a ≠ b → W p l e R s m args below meth c H locs cells slots Q (F0 m tgt ls rest)) (kf : a = b → W p l e R s m args below meth c H locs cells slots Q (F0 m (pc + 3) ls rest)) : W p l e R s m args below meth c H locs cells slots Q (F0 m pc ls (.int (nI b) :: .int (nI a) :: rest)) :=
  lv_icmp_ne hx hb hdg ht (fun h => kt fun q => h ((nI_eq h1 h2).mpr q)) (fun h => kf ((nI_eq h1 h2).mp h))
/-- rows of arrays, by numbers -/
theorem rI {a k n : Nat} {f : Nat → Int32} (hx : p.tables.exec = Jvm.exec) (hb : c.code = cc) (hK : va_K D vwCl (TYS cy) s) (hW : Wd D A s ws H locs) (q0 : Nat) (ha : ws[q0]? = some (a, .inl (cy 0, n, .inl f))) (hk : k < n) (hn : n < 2 ^ 31) (hdg : decode cc pc = .ok (.iaload, 1))
    (kk : W p l e R s m args below meth c H locs cells slots Q (F0 m (pc + 1) ls (.int (f k) :: rest))) : W p l e R s m args below meth c H locs cells slots Q (F0 m pc ls (.int (nI k) :: .ref a :: rest)) :=
  va_iald hx hb hK hW.1 q0 0 ha rfl (vp_in_nI hk hn) hdg (by rw [nI_clamp (by omega)]; exact kk)
theorem rB {a k n : Nat} {f : Nat → Int32} (hx : p.tables.exec = Jvm.exec) (hb : c.code = cc) (hK : va_K D vwCl (TYS cy) s) (hW : Wd D A s ws H locs) (q0 : Nat) (ha : ws[q0]? = some (a, .inl (cy 1, n, .inl f))) (hk : k < n) (hn : n < 2 ^ 31) (hdg : decode cc pc = .ok (.baload, 1))
    (kk : W p l e R s m args below meth c H locs cells slots Q (F0 m (pc + 1) ls (.int (f k) :: rest))) : W p l e R s m args below meth c H locs cells slots Q (F0 m pc ls (.int (nI k) :: .ref a :: rest)) :=
  va_bald hx hb hK hW.1 q0 1 ha rfl (vp_in_nI hk hn) hdg (by rw [nI_clamp (by omega)]; exact kk)
theorem rZ {a k n : Nat} {f : Nat → Int32} (hx : p.tables.exec = Jvm.exec) (hb : c.code = cc) (hK : va_K D vwCl (TYS cy) s) (hW : Wd D A s ws H locs) (q0 : Nat) (ha : ws[q0]? = some (a, .inl (cy 2, n, .inl f))) (hk : k < n) (hn : n < 2 ^ 31) (hdg : decode cc pc = .ok (.baload, 1))
    (kk : W p l e R s m args below meth c H locs cells slots Q (F0 m (pc + 1) ls (.int (f k) :: rest))) : W p l e R s m args below meth c H locs cells slots Q (F0 m pc ls (.int (nI k) :: .ref a :: rest)) :=
  va_zald hx hb hK hW.1 q0 2 ha rfl (vp_in_nI hk hn) hdg (by rw [nI_clamp (by omega)]; exact kk)
theorem wI {a k n : Nat} {f : Nat → Int32} {x : Int32} (hx : p.tables.exec = Jvm.exec) (hb : c.code = cc) (hK : va_K D vwCl (TYS cy) s) (hW : Wd D A s ws H locs) (q0 : Nat) (ha : ws[q0]? = some (a, .inl (cy 0, n, .inl f))) (hk : k < n) (hn : n < 2 ^ 31) (hdg : decode cc pc = .ok (.iastore, 1))
    (kk : ∀ (H1 : Heap) (locs1 : List Loc), Wd D A s (ws.set q0 (a, .inl (cy 0, n, .inl (upd f k x)))) H1 locs1 → W p l e R s m args below meth c H1 locs1 cells slots Q (F0 m (pc + 1) ls rest)) : W p l e R s m args below meth c H locs cells slots Q (F0 m pc ls (.int x :: .int (nI k) :: .ref a :: rest)) :=
  va_iast hx hb hK hW.1 hW.2.1 hW.2.2 q0 0 ha rfl (vp_in_nI hk hn) hdg (fun H1 locs1 hP hD hS => by rw [nI_clamp (by omega)] at hP hD; exact kk H1 locs1 ⟨hP, hD, hS⟩)
theorem wB {a k n : Nat} {f : Nat → Int32} {x x' : Int32} (hx : p.tables.exec = Jvm.exec) (hb : c.code = cc) (hK : va_K D vwCl (TYS cy) s) (hW : Wd D A s ws H locs) (q0 : Nat) (ha : ws[q0]? = some (a, .inl (cy 1, n, .inl f))) (hk : k < n) (hn : n < 2 ^ 31) (hv : vp_nar .byte x = x') (hdg : decode cc pc = .ok (.bastore, 1))
    (kk : ∀ (H1 : Heap) (locs1 : List Loc), Wd D A s (ws.set q0 (a, .inl (cy 1, n, .inl (upd f k x')))) H1 locs1 → W p l e R s m args below meth c H1 locs1 cells slots Q (F0 m (pc + 1) ls rest)) : W p l e R s m args below meth c H locs cells slots Q (F0 m pc ls (.int x :: .int (nI k) :: .ref a :: rest)) :=
  va_bast hx hb hK hW.1 hW.2.1 hW.2.2 q0 1 ha rfl (vp_in_nI hk hn) hdg (fun H1 locs1 hP hD hS => by rw [nI_clamp (by omega), hv] at hP hD; exact kk H1 locs1 ⟨hP, hD, hS⟩)
theorem wZ {a k n : Nat} {f : Nat → Int32} {x x' : Int32} (hx : p.tables.exec = Jvm.exec) (hb : c.code = cc) (hK : va_K D vwCl (TYS cy) s) (hW : Wd D A s ws H locs) (q0 : Nat) (ha : ws[q0]? = some (a, .inl (cy 2, n, .inl f))) (hk : k < n) (hn : n < 2 ^ 31) (hv : vp_nar .boolean x = x') (hdg : decode cc pc = .ok (.bastore, 1))
    (kk : ∀ (H1 : Heap) (locs1 : List Loc), Wd D A s (ws.set q0 (a, .inl (cy 2, n, .inl (upd f k x')))) H1 locs1 → W p l e R s m args below meth c H1 locs1 cells slots Q (F0 m (pc + 1) ls rest)) : W p l e R s m args below meth c H locs cells slots Q (F0 m pc ls (.int x :: .int (nI k) :: .ref a :: rest)) :=
  va_zast hx hb hK hW.1 hW.2.1 hW.2.2 q0 2 ha rfl (vp_in_nI hk hn) hdg (fun H1 locs1 hP hD hS => by rw [nI_clamp (by omega), hv] at hP hD; exact kk H1 locs1 ⟨hP, hD, hS⟩)
/-- START, ORDER -/
theorem rS {k : Nat} {n : Nat} {g : Nat → Int32} {tt : Nat} (hx : p.tables.exec = Jvm.exec) (hb : c.code = cc) (hT : va_T .int tt n (fun k => .int (g k)) A s s.heap) (hW : Wd D A s ws H locs) (hk : k < n) (hn : n < 2 ^ 31) (hdg : decode cc pc = .ok (.iaload, 1))
    (kk : W p l e R s m args below meth c H locs cells slots Q (F0 m (pc + 1) ls (.int (g k) :: rest))) : W p l e R s m args below meth c H locs cells slots Q (F0 m pc ls (.int (nI k) :: .ref tt :: rest)) :=
  va_ti hx hb hT hW.2.2 (vp_in_nI hk hn) (by rw [nI_clamp (by omega)]) hdg kk
theorem alI {a n : Nat} {f : Nat → Int32} (hx : p.tables.exec = Jvm.exec) (hb : c.code = cc) (hK : va_K D vwCl (TYS cy) s) (hW : Wd D A s ws H locs) (q0 t0 : Nat) {ci : Nat} {ty : FieldType} (ht : (TYS cy)[t0]? = some (cy ci, ty)) (ha : ws[q0]? = some (a, .inl (cy ci, n, .inl f))) (hdg : decode cc pc = .ok (.arraylength, 1))
    (kk : W p l e R s m args below meth c H locs cells slots Q (F0 m (pc + 1) ls (.int (nI n) :: rest))) : W p l e R s m args below meth c H locs cells slots Q (F0 m pc ls (.ref a :: rest)) :=
  va_alen hx hb hK hW.1 q0 t0 ha ht rfl hdg kk
/-- tests of a number against 0 -/
theorem zLt {a : Nat} (hx : p.tables.exec = Jvm.exec) (hb : c.code = cc) {off : Int} {tgt : Nat} (hdg : decode cc pc = .ok (.ifCond .lt off, 3)) (ht : (pc : Int) + off = (tgt : Int)) (h1 : a < 2 ^ 31) (kf : W p l e R s m args below meth c H locs cells slots Q (F0 m (pc + 3) ls rest)) : W p l e R s m args below meth c H locs cells slots Q (F0 m pc ls (.int (nI a) :: rest)) :=
  lv_if_lt hx hb hdg ht (fun h => absurd h (nI_pos h1)) (fun _ => kf)
theorem zGe {a : Nat} (hx : p.tables.exec = Jvm.exec) (hb : c.code = cc) {off : Int} {tgt : Nat} (hdg : decode cc pc = .ok (.ifCond .ge off, 3)) (ht : (pc : Int) + off = (tgt : Int)) (h1 : a < 2 ^ 31) (kt : W p l e R s m args below meth c H locs cells slots Q (F0 m tgt ls rest)) : W p l e R s m args below meth c H locs cells slots Q (F0 m pc ls (.int (nI a) :: rest)) :=
  lv_if_ge hx hb hdg ht (fun _ => kt) (fun h => absurd (nI_pos' h1) h)
theorem zEq {a : Nat} (hx : p.tables.exec = Jvm.exec) (hb : c.code = cc) {off : Int} {tgt : Nat} (hdg : decode cc pc = .ok (.ifCond .eq off, 3)) (ht : (pc : Int) + off = (tgt : Int)) (h1 : a < 2 ^ 31) (kt : a = 0 → W p l e R s m args below meth c H locs cells slots Q (F0 m tgt ls rest)) (kf : a ≠ 0 → W p l e R s m args below meth c H locs cells slots Q (F0 m (pc + 3) ls rest)) : W p l e R s m args below meth c H locs cells slots Q (F0 m pc ls (.int (nI a) :: rest)) :=
  lv_if_eq hx hb hdg ht (fun h => kt ((nI_eq h1 (by decide)).mp (h.trans nI_0.symm))) (fun h => kf (fun q => h (by rw [q]; exact nI_0)))
theorem zNe {a : Nat} (hx : p.tables.exec = Jvm.exec) (hb : c.code = cc) {off : Int} {tgt : Nat} (hdg : decode cc pc = .ok (.ifCond .ne off, 3)) (ht : (pc : Int) + off = (tgt : Int)) (h1 : a < 2 ^ 31) (kt : a ≠ 0 → W p l e R s m args below meth c H locs cells slots Q (F0 m tgt ls rest)) (kf : a = 0 → W p l e R s m args below meth c H locs cells slots Q (F0 m (pc + 3) ls rest)) : W p l e R s m args below meth c H locs cells slots Q (F0 m pc ls (.int (nI a) :: rest)) :=
  lv_if_ne hx hb hdg ht (fun h => kt (fun q => h (by rw [q]; exact nI_0))) (fun h => kf ((nI_eq h1 (by decide)).mp (h.trans nI_0.symm)))
theorem zGt {a : Nat} (hx : p.tables.exec = Jvm.exec) (hb : c.code = cc) {off : Int} {tgt : Nat} (hdg : decode cc pc = .ok (.ifCond .gt off, 3)) (ht : (pc : Int) + off = (tgt : Int)) (h1 : a < 2 ^ 31) (kt : 0 < a → W p l e R s m args below meth c H locs cells slots Q (F0 m tgt ls rest)) (kf : a = 0 → W p l e R s m args below meth c H locs cells slots Q (F0 m (pc + 3) ls rest)) : W p l e R s m args below meth c H locs cells slots Q (F0 m pc ls (.int (nI a) :: rest)) :=
  lv_if_gt hx hb hdg ht (fun h => kt ((nI_ltI (by decide) h1).mp (by rw [nI_0]; exact h))) (fun h => kf (Nat.eq_zero_of_not_pos (fun q => h (by rw [← nI_0]; exact (nI_ltI (by decide) h1).mpr q))))
theorem zLe {a : Nat} (hx : p.tables.exec = Jvm.exec) (hb : c.code = cc) {off : Int} {tgt : Nat} (hdg : decode cc pc = .ok (.ifCond .le off, 3)) (ht : (pc : Int) + off = (tgt : Int)) (h1 : a < 2 ^ 31) (kt : a = 0 → W p l e R s m args below meth c H locs cells slots Q (F0 m tgt ls rest)) (kf : 0 < a → W p l e R s m args below meth c H locs cells slots Q (F0 m (pc + 3) ls rest)) : W p l e R s m args below meth c H locs cells slots Q (F0 m pc ls (.int (nI a) :: rest)) :=
  lv_if_le hx hb hdg ht (fun h => kt (Nat.le_zero.mp ((nI_leI h1 (by decide)).mp (by rw [nI_0]; exact h)))) (fun h => kf (Nat.pos_of_ne_zero (fun q => h (by rw [q, nI_0]; exact Int32.le_refl _))))
end BASEC
end
section
theorem ix_lt {i : Int32} {n : Nat} (h0 : ¬ i < 0) (h1 : ¬ nI n ≤ i) (hn : n < 2 ^ 31) : ∃ j : Nat, j < n ∧ i = nI j := by
  rcases pk_ix i hn with h | h | h
  · exact absurd h h0
  · exact absurd h h1
  · exact h
theorem ix_le {i : Int32} {n : Nat} (h0 : ¬ i < 0) (h1 : i ≤ nI n) (hn : n < 2 ^ 31) : ∃ j : Nat, j ≤ n ∧ i = nI j := by
  obtain ⟨j, hj, rfl⟩ := nI_of h0
  exact ⟨j, (nI_leI hj hn).mp h1, rfl⟩
/-- what a register's byte is told as -/
def byt (f : Nat → Int32) (cnt : Nat) (i : Int32) : Int32 := if 0 ≤ i ∧ i < nI cnt then f i.toNatClampNeg &&& 255 else -1
theorem byt_in {f : Nat → Int32} {cnt j : Nat} (h : j < cnt) (hc : cnt < 2 ^ 31) : byt f cnt (nI j) = f j &&& 255 := by
  unfold byt
  rw [if_pos ⟨nI_pos' (by omega), nI_lt h hc⟩, nI_clamp (by omega)]
theorem byt_neg {f : Nat → Int32} {cnt : Nat} {i : Int32} (h : i < 0) : byt f cnt i = -1 := by
  unfold byt
  rw [if_neg (fun q => Int32.not_le.mpr h q.1)]
theorem byt_out {f : Nat → Int32} {cnt : Nat} {i : Int32} (h : nI cnt ≤ i) : byt f cnt i = -1 := by
  unfold byt
  rw [if_neg (fun q => Int32.not_le.mpr q.2 h)]
/-- places cnt .. cnt + n - 1 of a row come of h -/
def apG (f : Nat → Int32) (cnt : Nat) (h : Nat → Int32) (n : Nat) : Nat → Int32 := fun j => if cnt ≤ j ∧ j < cnt + n then h (j - cnt) else f j
theorem apG_0 (f : Nat → Int32) (cnt : Nat) (h : Nat → Int32) : apG f cnt h 0 = f := by
  funext j
  unfold apG
  rw [if_neg (by omega)]
theorem apG_s (f : Nat → Int32) (cnt : Nat) (h : Nat → Int32) (i : Nat) : upd (apG f cnt h i) (cnt + i) (h i) = apG f cnt h (i + 1) := by
  funext j
  unfold upd apG
  by_cases e : j = cnt + i
  · subst e
    rw [if_pos rfl, if_pos (by omega), Nat.add_sub_cancel_left]
  · rw [if_neg e]
    by_cases q : cnt ≤ j ∧ j < cnt + i
    · rw [if_pos q, if_pos (by omega)]
    · rw [if_neg q, if_neg (by omega)]
/-- byte i of words, before it is cut to eight bits -/
def wby (w : Nat → Int32) (i : Nat) : Int32 := ((w (i / 2 ^ 2)).toUInt32 >>> ((nI (8 * (i % 2 ^ 2))).toUInt32 &&& Int32.toUInt32 31)).toInt32
def b8 (x : Int32) : Int32 := x.toInt8.toInt32
theorem b8_nar (x : Int32) : vp_nar .byte (b8 x) = b8 x := pk_vb x
/-- a word of four bytes -/
def wrd (g : Nat → Int32) (i : Nat) : Int32 := (((g i) ||| ((g (i + 1)) <<< ((nI 8) &&& 31))) ||| ((g (i + 2)) <<< ((nI 16) &&& 31))) ||| ((g (i + 3)) <<< ((nI 24) &&& 31))
def lo8 (f : Nat → Int32) : Nat → Int32 := fun k => f k &&& 255
/-- an array's row matters up to its length alone -/
theorem Wd.ext {D : va_G} {A : Nat → Prop} {s : State} {ws : va_W} {H : Heap} {locs : List Loc} {a n : Nat} {cA : ClassId} {f : Nat → Int32} (hW : Wd D A s ws H locs) (q0 : Nat) (he : ws[q0]? = some (a, .inl (cA, n, .inl f))) (g : Nat → Int32) (h : ∀ k, k < n → f k = g k) : Wd D A s (ws.set q0 (a, .inl (cA, n, .inl g))) H locs := by
  refine ⟨hW.1.set hW.2.1 he ?_ (fun _ _ => rfl), hW.2.1.set he, hW.2.2⟩
  have h1 : H[a]? = some (vp_cell cA (n, .inl f)) := hW.1 q0 _ he
  show H[a]? = some (vp_cell cA (n, .inl g))
  rw [h1]
  have e : (Array.ofFn (n := n) fun j => Value.int (f j.val)) = Array.ofFn (n := n) fun j => Value.int (g j.val) := by
    congr 1
    funext j
    rw [h j.val j.isLt]
  simp only [vp_cell, arrV, e]
theorem Wd.sub {D : va_G} {A : Nat → Prop} {s : State} {ws ws' : va_W} {H : Heap} {locs : List Loc} (hW : Wd D A s ws H locs) (is : List Nat) (hn : va_nd is = true) (hs : is.map (fun i => ws[i]?) = ws'.map some) : Wd D A s ws' H locs := by
  refine ⟨hW.1.sub is ?_, hW.2.1.sub is hn hs, hW.2.2⟩
  have : is.filterMap (fun i => ws[i]?) = (is.map (fun i => ws[i]?)).filterMap id := by rw [List.filterMap_map]; rfl
  rw [this, hs, List.filterMap_map]
  simp
/-! the mix, as numbers -/
abbrev Jk : Type := Nat × Nat × (Nat → Int32) × (Nat → Int32)
def rot (x : Int32) (k : Nat) : Int32 := (x.toUInt32 >>> ((nI k).toUInt32 &&& Int32.toUInt32 31)).toInt32 ||| (x <<< ((nI (32 - k)) &&& 31))
def tn (v : Nat → Int32) (a b c d : Nat) (x y : Int32) : Nat → Int32 :=
  let va := (v a + v b) + x
  let vd := rot (v d ^^^ va) 16
  let vc := v c + vd
  let vb := rot (v b ^^^ vc) 12
  let va2 := va + (vb + y)
  let vd2 := rot (vd ^^^ va2) 8
  let vc2 := vc + vd2
  let vb2 := rot (vb ^^^ vc2) 7
  upd (upd (upd (upd v a va2) b vb2) c vc2) d vd2
def rnd (v w : Nat → Int32) : Nat → Int32 :=
  tn (tn (tn (tn (tn (tn (tn (tn v 0 4 8 12 (w 0) (w 1)) 1 5 9 13 (w 2) (w 3)) 2 6 10 14 (w 4) (w 5)) 3 7 11 15 (w 6) (w 7)) 0 5 10 15 (w 8) (w 9)) 1 6 11 12 (w 10) (w 11)) 2 7 8 13 (w 12) (w 13)) 3 4 9 14 (w 14) (w 15)
def wr (bl : Nat → Int32) : Nat → Nat → Int32
  | 0 => bl
  | i + 1 => fun k => wr bl i (orN k)
def vr (v bl : Nat → Int32) : Nat → Nat → Int32
  | 0 => v
  | i + 1 => rnd (vr v bl i) (wr bl i)
def vin (ch : Nat → Int32) (ct : Int64) (ln fl : Int32) : Nat → Int32 := fun k => if k < 8 then ch k else if k < 12 then stA (k - 8) else if k = 12 then ct.toInt32 else if k = 13 then (ct.toUInt64 >>> ((nI 32).toInt64.toUInt64 &&& Int64.toUInt64 63)).toInt64.toInt32 else if k = 14 then ln else fl
/-- the last step, done for the first i of eight -/
def fin (v ch : Nat → Int32) (i : Nat) : Nat → Int32 := fun j => if j < i then v j ^^^ v (j + 8) else if 8 ≤ j ∧ j < 8 + i then v j ^^^ ch (j - 8) else v j
def mixV (ch bl : Nat → Int32) (ct : Int64) (ln fl : Int32) : Nat → Int32 := fin (vr (vin ch ct ln fl) bl 7) ch 8
theorem fin_0 (v ch : Nat → Int32) : fin v ch 0 = v := by
  funext j
  unfold fin
  rw [if_neg (by omega), if_neg (by omega)]
theorem fin_a {v ch : Nat → Int32} {i j : Nat} (h : j < i) : fin v ch i j = v j ^^^ v (j + 8) := by
  unfold fin
  rw [if_pos h]
theorem fin_b {v ch : Nat → Int32} {i j : Nat} (h : i ≤ j) (h2 : ¬ (8 ≤ j ∧ j < 8 + i)) : fin v ch i j = v j := by
  unfold fin
  rw [if_neg (by omega), if_neg h2]
theorem fin_c {v ch : Nat → Int32} {i j : Nat} (h : i ≤ j) (h2 : 8 ≤ j ∧ j < 8 + i) : fin v ch i j = v j ^^^ ch (j - 8) := by
  unfold fin
  rw [if_neg (by omega), if_pos h2]
theorem fin_s (v ch : Nat → Int32) {i : Nat} (hi : i < 8) : upd (upd (fin v ch i) i (fin v ch i i ^^^ fin v ch i (i + 8))) (i + 8) ((upd (fin v ch i) i (fin v ch i i ^^^ fin v ch i (i + 8))) (i + 8) ^^^ ch i) = fin v ch (i + 1) := by
  rw [fin_b (Nat.le_refl i) (by omega), fin_b (v := v) (ch := ch) (i := i) (j := i + 8) (by omega) (by omega), pk_un (by omega), fin_b (v := v) (ch := ch) (i := i) (j := i + 8) (by omega) (by omega)]
  funext j
  by_cases e : j = i + 8
  · subst e
    rw [pk_us, fin_c (by omega) (by omega), Nat.add_sub_cancel]
  · rw [pk_un e]
    by_cases e2 : j = i
    · subst e2
      rw [pk_us, fin_a (by omega)]
    · rw [pk_un e2]
      by_cases q1 : j < i
      · rw [fin_a q1, fin_a (by omega)]
      · by_cases q2 : 8 ≤ j ∧ j < 8 + i
        · rw [fin_c (by omega) q2, fin_c (by omega) (by omega)]
        · rw [fin_b (by omega) q2, fin_b (by omega) (by omega)]
theorem orN_lt (k : Nat) : orN k < 16 := by
  unfold orN
  split <;> decide
theorem vin_ok {v ch : Nat → Int32} {ct : Int64} {ln fl : Int32} {x y : Int32} (hx : ct.toInt32 = x) (hy : (ct.toUInt64 >>> ((nI 32).toInt64.toUInt64 &&& Int64.toUInt64 63)).toInt64.toInt32 = y) : ∀ k, k < 16 → upd (upd (upd (upd (apG (apG v 0 ch 8) 8 stA 4) 12 x) 13 y) 14 ln) 15 fl k = vin ch ct ln fl k := by
  intro k hk
  subst hx
  subst hy
  unfold vin
  by_cases h1 : k < 8
  · rw [if_pos h1]
    simp only [upd]
    rw [if_neg (by omega), if_neg (by omega), if_neg (by omega), if_neg (by omega)]
    unfold apG
    rw [if_neg (by omega), if_pos (by omega), Nat.sub_zero]
  · rw [if_neg h1]
    by_cases h2 : k < 12
    · rw [if_pos h2]
      simp only [upd]
      rw [if_neg (by omega), if_neg (by omega), if_neg (by omega), if_neg (by omega)]
      unfold apG
      rw [if_pos (by omega)]
    · rw [if_neg h2]
      rcases (by omega : k = 12 ∨ k = 13 ∨ k = 14 ∨ k = 15) with rfl | rfl | rfl | rfl <;> simp [upd]
theorem apG_all {f h : Nat → Int32} {n : Nat} : ∀ k, k < n → apG f 0 h n k = h k := by
  intro k hk
  unfold apG
  rw [if_pos (by omega), Nat.sub_zero]
/-- the block of a parent: left before right -/
def jn (x y : Nat → Int32) : Nat → Int32 := fun k => if k < 8 then x k else y (k - 8)
/-- half way: i of the eight pairs laid -/
def jnI (b x y : Nat → Int32) (i : Nat) : Nat → Int32 := fun j => if j < i then x j else if 8 ≤ j ∧ j < 8 + i then y (j - 8) else b j
theorem jnI_0 (b x y : Nat → Int32) : jnI b x y 0 = b := by
  funext j
  unfold jnI
  rw [if_neg (by omega), if_neg (by omega)]
theorem jnI_a {b x y : Nat → Int32} {i j : Nat} (h : j < i) : jnI b x y i j = x j := by
  unfold jnI
  rw [if_pos h]
theorem jnI_b {b x y : Nat → Int32} {i j : Nat} (h : i ≤ j) (h2 : ¬ (8 ≤ j ∧ j < 8 + i)) : jnI b x y i j = b j := by
  unfold jnI
  rw [if_neg (by omega), if_neg h2]
theorem jnI_c {b x y : Nat → Int32} {i j : Nat} (h : i ≤ j) (h2 : 8 ≤ j ∧ j < 8 + i) : jnI b x y i j = y (j - 8) := by
  unfold jnI
  rw [if_neg (by omega), if_pos h2]
theorem jnI_s (b x y : Nat → Int32) {i : Nat} (hi : i < 8) : upd (upd (jnI b x y i) i (x i)) (8 + i) (y i) = jnI b x y (i + 1) := by
  funext j
  by_cases e : j = 8 + i
  · subst e
    rw [pk_us, jnI_c (by omega) (by omega), Nat.add_sub_cancel_left]
  · rw [pk_un e]
    by_cases e2 : j = i
    · subst e2
      rw [pk_us, jnI_a (by omega)]
    · rw [pk_un e2]
      by_cases q1 : j < i
      · rw [jnI_a q1, jnI_a (by omega)]
      · by_cases q2 : 8 ≤ j ∧ j < 8 + i
        · rw [jnI_c (by omega) q2, jnI_c (by omega) (by omega)]
        · rw [jnI_b (by omega) q2, jnI_b (by omega) (by omega)]
theorem jnI_8 {b x y : Nat → Int32} : ∀ k, k < 16 → jnI b x y 8 k = jn x y k := by
  intro k hk
  unfold jnI jn
  by_cases q1 : k < 8
  · rw [if_pos q1, if_pos q1]
  · rw [if_neg q1, if_neg q1, if_pos (by omega)]
theorem upd_self (f : Nat → Int32) (k : Nat) : upd f k (f k) = f := by
  funext j
  unfold upd
  split
  · rename_i h
    rw [h]
  · rfl
/-- what is told of byte i of the words that come of a mix -/
def oby (v : Nat → Int32) (i : Nat) : Int32 := wby v i &&& 255
/-- byte q of the output of a node -/
def outB (ch bl : Nat → Int32) (ln fl : Int32) (q : Nat) : Int32 := oby (mixV ch bl (lN (q / 2 ^ 6)) ln fl) (q % 2 ^ 6)
end
section
theorem f_X0_hasRoomFor_0 : Cond.fieldLink RX0 15 "TreeHashes$Bytes" "row" "[B" ∈ wsX0_hasRoomFor := by decide +kernel
theorem i_X0_hasRoomFor_X0 : ∀ w ∈ wsX00, w ∈ wsX0_hasRoomFor := by decide +kernel
theorem f_X0_hasRoomFor_2 : Cond.fieldLink RX0 21 "TreeHashes$Bytes" "count" "I" ∈ wsX0_hasRoomFor := by decide +kernel
set_option maxHeartbeats 4000000 in
set_option maxRecDepth 100000 in
theorem c_X0_hasRoomFor (l : Launch) (D : va_G) (cy : Nat → ClassId) (t : Nat × Nat) (a0 : Nat) (a1 : Nat) (n0 : Nat) (cnt : Nat) (f : Nat → Int32) (x : Int32) (hc : cnt ≤ n0) (hn : n0 < 2 ^ 31) (sz : Nat) : Met l yX0_hasRoomFor wsX0_hasRoomFor ({ frames := 0, cells := 0, slots := 0, locals := 0 }) (PcW D cy t [(a0, .inr (0, [.ref a1, .int (nI (cnt))])), (a1, .inl (cy 1, n0, .inl (f)))] [.ref a0, .int (x)] sz) (QiA D cy (fun (r : Int32) (u : Unit) => (r = if x ≤ nI (n0 - cnt) then (1 : Int32) else 0)) (fun u : Unit => [(a0, .inr (0, [.ref a1, .int (nI (cnt))])), (a1, .inl (cy 1, n0, .inl (f)))]) (va_A [(a0, .inr (0, [.ref a1, .int (nI (cnt))])), (a1, .inl (cy 1, n0, .inl (f)))] sz)) 0 0 (va_A [(a0, .inr (0, [.ref a1, .int (nI (cnt))])), (a1, .inl (cy 1, n0, .inl (f)))] sz) := by
  refine M_ofW (cc := cX0_hasRoomFor) (maxL := 2) (ret := (some .boolean)) (by decide) rfl (Nat.le_of_ble_eq_true rfl) ?_
  intro p e s m below meth c A ls args Q hQ S0 hr hlocks hnm hK hst hA hW hl
  have hx := S0.1; have hb := S0.2.1; have hml := S0.2.2.1; have hown := S0.2.2.2.1; have hts := S0.2.2.2.2
  have hl : lv_has ls 2 [(0, .ref a0), (1, .int (x))] := hl
  refine lv_iload_n hx hb dX0_hasRoomFor_0 rfl (lv_at hl 1 rfl) ?_
  refine lv_aload_n hx hb dX0_hasRoomFor_1 rfl (lv_at hl 0 rfl) ?_
  refine va_get (D := D) (ci := 0) (v := .ref a1) (C := RX0) (T := TX0) (N := 2) hx hb hts i_X0_hasRoomFor_X0 hown hK hW.1 0 rfl rfl 0 (by decide) (hts (.fieldLink RX0 15 "TreeHashes$Bytes" "row" "[B") f_X0_hasRoomFor_0) (fun _ h9 => h9) rfl dX0_hasRoomFor_2 ?_
  refine alI hx hb hK hW 1 1 (ci := 1) rfl rfl dX0_hasRoomFor_5 ?_
  refine lv_aload_n hx hb dX0_hasRoomFor_6 rfl (lv_at hl 0 rfl) ?_
  refine va_get (D := D) (ci := 0) (v := .int (nI (cnt))) (C := RX0) (T := TX0) (N := 2) hx hb hts i_X0_hasRoomFor_X0 hown hK hW.1 0 rfl rfl 1 (by decide) (hts (.fieldLink RX0 21 "TreeHashes$Bytes" "count" "I") f_X0_hasRoomFor_2) (fun _ h9 => h9) rfl dX0_hasRoomFor_7 ?_
  refine lv_isub hx hb dX0_hasRoomFor_10 ?_
  refine tI (pk_sub (by omega)) ?_
  refine lv_icmp_gt (tgt := 18) hx hb dX0_hasRoomFor_11 (by decide) (fun h11 => ?_) (fun h11 => ?_)
  · skip
    refine lv_iconst (v := nI (0)) hx hb dX0_hasRoomFor_18 (by decide) ?_
    exact eZ hQ hx hb hr hlocks hK hW () ((if_neg (Int32.not_le.mpr h11)).symm) (rfl) (by decide) dX0_hasRoomFor_19
  · skip
    refine lv_iconst (v := nI (1)) hx hb dX0_hasRoomFor_14 (by decide) ?_
    refine lv_goto (tgt := 19) hx hb dX0_hasRoomFor_15 (by decide) ?_
    exact eZ hQ hx hb hr hlocks hK hW () ((if_pos (Int32.not_lt.mp h11)).symm) (rfl) (by decide) dX0_hasRoomFor_19

theorem f_X0_byteAt_0 : Cond.fieldLink RX0 21 "TreeHashes$Bytes" "count" "I" ∈ wsX0_byteAt := by decide +kernel
theorem i_X0_byteAt_X0 : ∀ w ∈ wsX00, w ∈ wsX0_byteAt := by decide +kernel
theorem f_X0_byteAt_2 : Cond.fieldLink RX0 15 "TreeHashes$Bytes" "row" "[B" ∈ wsX0_byteAt := by decide +kernel
set_option maxHeartbeats 4000000 in
set_option maxRecDepth 100000 in
theorem c_X0_byteAt (l : Launch) (D : va_G) (cy : Nat → ClassId) (t : Nat × Nat) (a0 : Nat) (a1 : Nat) (n0 : Nat) (cnt : Nat) (f : Nat → Int32) (i : Int32) (hc : cnt ≤ n0) (hn : n0 < 2 ^ 31) (sz : Nat) : Met l yX0_byteAt wsX0_byteAt ({ frames := 0, cells := 0, slots := 0, locals := 0 }) (PcW D cy t [(a0, .inr (0, [.ref a1, .int (nI (cnt))])), (a1, .inl (cy 1, n0, .inl (f)))] [.ref a0, .int (i)] sz) (QiA D cy (fun (r : Int32) (u : Unit) => (r = byt f cnt i)) (fun u : Unit => [(a0, .inr (0, [.ref a1, .int (nI (cnt))])), (a1, .inl (cy 1, n0, .inl (f)))]) (va_A [(a0, .inr (0, [.ref a1, .int (nI (cnt))])), (a1, .inl (cy 1, n0, .inl (f)))] sz)) 0 0 (va_A [(a0, .inr (0, [.ref a1, .int (nI (cnt))])), (a1, .inl (cy 1, n0, .inl (f)))] sz) := by
  refine M_ofW (cc := cX0_byteAt) (maxL := 2) (ret := (some .int)) (by decide) rfl (Nat.le_of_ble_eq_true rfl) ?_
  intro p e s m below meth c A ls args Q hQ S0 hr hlocks hnm hK hst hA hW hl
  have hx := S0.1; have hb := S0.2.1; have hml := S0.2.2.1; have hown := S0.2.2.2.1; have hts := S0.2.2.2.2
  have hl : lv_has ls 2 [(0, .ref a0), (1, .int (i))] := hl
  refine lv_iload_n hx hb dX0_byteAt_0 rfl (lv_at hl 1 rfl) ?_
  refine lv_if_lt (tgt := 25) hx hb dX0_byteAt_1 (by decide) (fun h1 => ?_) (fun h1 => ?_)
  · skip
    refine lv_iconst (v := (-1 : Int32)) hx hb dX0_byteAt_25 (by decide) ?_
    exact eI hQ hx hb hr hlocks hK hW () ((byt_neg h1).symm) (rfl) dX0_byteAt_26
  · skip
    refine lv_iload_n hx hb dX0_byteAt_4 rfl (lv_at hl 1 rfl) ?_
    refine lv_aload_n hx hb dX0_byteAt_5 rfl (lv_at hl 0 rfl) ?_
    refine va_get (D := D) (ci := 0) (v := .int (nI (cnt))) (C := RX0) (T := TX0) (N := 2) hx hb hts i_X0_byteAt_X0 hown hK hW.1 0 rfl rfl 1 (by decide) (hts (.fieldLink RX0 21 "TreeHashes$Bytes" "count" "I") f_X0_byteAt_0) (fun _ h9 => h9) rfl dX0_byteAt_6 ?_
    refine lv_icmp_ge (tgt := 25) hx hb dX0_byteAt_9 (by decide) (fun h9 => ?_) (fun h9 => ?_)
    · skip
      refine lv_iconst (v := (-1 : Int32)) hx hb dX0_byteAt_25 (by decide) ?_
      exact eI hQ hx hb hr hlocks hK hW () ((byt_out h9).symm) (rfl) dX0_byteAt_26
    · skip
      obtain ⟨j, hj, ej⟩ := ix_lt h1 h9 (by omega)
      subst ej
      refine lv_aload_n hx hb dX0_byteAt_12 rfl (lv_at hl 0 rfl) ?_
      refine va_get (D := D) (ci := 0) (v := .ref a1) (C := RX0) (T := TX0) (N := 2) hx hb hts i_X0_byteAt_X0 hown hK hW.1 0 rfl rfl 0 (by decide) (hts (.fieldLink RX0 15 "TreeHashes$Bytes" "row" "[B") f_X0_byteAt_2) (fun _ h9 => h9) rfl dX0_byteAt_13 ?_
      refine lv_iload_n hx hb dX0_byteAt_16 rfl (lv_at hl 1 rfl) ?_
      refine rB hx hb hK hW 1 rfl (k := j) (by omega) (by omega) dX0_byteAt_17 ?_
      refine lv_sipush (v := nI (255)) hx hb dX0_byteAt_18 (by decide) ?_
      refine lv_iand hx hb dX0_byteAt_21 ?_
      refine lv_goto (tgt := 26) hx hb dX0_byteAt_22 (by decide) ?_
      exact eI hQ hx hb hr hlocks hK hW () ((byt_in hj (by omega)).symm) (rfl) dX0_byteAt_26

theorem f_X0_append_0 : Cond.fieldLink RX0 21 "TreeHashes$Bytes" "count" "I" ∈ wsX0_append := by decide +kernel
theorem i_X0_append_X0 : ∀ w ∈ wsX00, w ∈ wsX0_append := by decide +kernel
theorem f_X0_append_2 : Cond.fieldLink RX0 15 "TreeHashes$Bytes" "row" "[B" ∈ wsX0_append := by decide +kernel
set_option maxHeartbeats 4000000 in
set_option maxRecDepth 100000 in
theorem c_X0_append (l : Launch) (D : va_G) (cy : Nat → ClassId) (t : Nat × Nat) (a0 : Nat) (a1 : Nat) (n0 : Nat) (cnt : Nat) (f : Nat → Int32) (x : Int32) (hc : cnt < n0) (hn : n0 < 2 ^ 31) (sz : Nat) : Met l yX0_append wsX0_append ({ frames := 0, cells := 0, slots := 0, locals := 0 }) (PcW D cy t [(a0, .inr (0, [.ref a1, .int (nI (cnt))])), (a1, .inl (cy 1, n0, .inl (f)))] [.ref a0, .int (x)] sz) (QvA D cy (fun u : Unit => True) (fun u : Unit => [(a0, .inr (0, [.ref a1, .int (nI (cnt + 1))])), (a1, .inl (cy 1, n0, .inl (upd f cnt (b8 x))))]) (va_A [(a0, .inr (0, [.ref a1, .int (nI (cnt))])), (a1, .inl (cy 1, n0, .inl (f)))] sz)) 0 0 (va_A [(a0, .inr (0, [.ref a1, .int (nI (cnt))])), (a1, .inl (cy 1, n0, .inl (f)))] sz) := by
  refine M_ofW (cc := cX0_append) (maxL := 2) (ret := none) (by decide) rfl (Nat.le_of_ble_eq_true rfl) ?_
  intro p e s m below meth c A ls args Q hQ S0 hr hlocks hnm hK hst hA hW hl
  have hx := S0.1; have hb := S0.2.1; have hml := S0.2.2.1; have hown := S0.2.2.2.1; have hts := S0.2.2.2.2
  have hl : lv_has ls 2 [(0, .ref a0), (1, .int (x))] := hl
  refine lv_aload_n hx hb dX0_append_0 rfl (lv_at hl 0 rfl) ?_
  refine va_get (D := D) (ci := 0) (v := .int (nI (cnt))) (C := RX0) (T := TX0) (N := 2) hx hb hts i_X0_append_X0 hown hK hW.1 0 rfl rfl 1 (by decide) (hts (.fieldLink RX0 21 "TreeHashes$Bytes" "count" "I") f_X0_append_0) (fun _ h9 => h9) rfl dX0_append_1 ?_
  refine lv_aload_n hx hb dX0_append_4 rfl (lv_at hl 0 rfl) ?_
  refine va_get (D := D) (ci := 0) (v := .ref a1) (C := RX0) (T := TX0) (N := 2) hx hb hts i_X0_append_X0 hown hK hW.1 0 rfl rfl 0 (by decide) (hts (.fieldLink RX0 15 "TreeHashes$Bytes" "row" "[B") f_X0_append_2) (fun _ h9 => h9) rfl dX0_append_5 ?_
  refine alI hx hb hK hW 1 1 (ci := 1) rfl rfl dX0_append_8 ?_
  refine iGe (a := cnt) (b := n0) (tgt := 33) hx hb dX0_append_9 (by decide) (by omega) (by omega) (fun h9 => ?_) (fun h9 => ?_)
  · skip
    exfalso; omega
  · skip
    refine lv_aload_n hx hb dX0_append_12 rfl (lv_at hl 0 rfl) ?_
    refine va_get (D := D) (ci := 0) (v := .ref a1) (C := RX0) (T := TX0) (N := 2) hx hb hts i_X0_append_X0 hown hK hW.1 0 rfl rfl 0 (by decide) (hts (.fieldLink RX0 15 "TreeHashes$Bytes" "row" "[B") f_X0_append_2) (fun _ h9 => h9) rfl dX0_append_13 ?_
    refine lv_aload_n hx hb dX0_append_16 rfl (lv_at hl 0 rfl) ?_
    refine va_get (D := D) (ci := 0) (v := .int (nI (cnt))) (C := RX0) (T := TX0) (N := 2) hx hb hts i_X0_append_X0 hown hK hW.1 0 rfl rfl 1 (by decide) (hts (.fieldLink RX0 21 "TreeHashes$Bytes" "count" "I") f_X0_append_0) (fun _ h9 => h9) rfl dX0_append_17 ?_
    refine lv_iload_n hx hb dX0_append_20 rfl (lv_at hl 1 rfl) ?_
    refine lv_i2b hx hb dX0_append_21 rfl ?_
    refine tI (x' := b8 x) (rfl) ?_
    refine wB hx hb hK hW 1 rfl (k := cnt) (by omega) (by omega) (b8_nar _) dX0_append_22 (fun H locs hW => ?_)
    have hW : Wd D A s [(a0, .inr (0, [.ref a1, .int (nI (cnt))])), (a1, .inl (cy 1, n0, .inl (upd f cnt (b8 x))))] H locs := hW
    refine lv_aload_n hx hb dX0_append_23 rfl (lv_at hl 0 rfl) ?_
    refine lv_dup hx hb dX0_append_24 rfl ?_
    refine va_get (D := D) (ci := 0) (v := .int (nI (cnt))) (C := RX0) (T := TX0) (N := 2) hx hb hts i_X0_append_X0 hown hK hW.1 0 rfl rfl 1 (by decide) (hts (.fieldLink RX0 21 "TreeHashes$Bytes" "count" "I") f_X0_append_0) (fun _ h9 => h9) rfl dX0_append_25 ?_
    refine lv_iconst (v := nI (1)) hx hb dX0_append_28 (by decide) ?_
    refine lv_iadd hx hb dX0_append_29 ?_
    refine tI (nI_add _ _) ?_
    refine va_put (D := D) (ci := 0) (v := .int (nI (cnt + 1))) (ty := .int) (C := RX0) (T := TX0) (N := 2) hx hb hts i_X0_append_X0 tyX0 tyX0_ok nmX0 hown hK hW.1 hW.2.1 hW.2.2 0 rfl rfl 1 (by decide) (hts (.fieldLink RX0 21 "TreeHashes$Bytes" "count" "I") f_X0_append_0) (fun _ h9 => h9) rfl (by decide +kernel) rfl rfl (Nat.le_of_ble_eq_true rfl) dX0_append_30 (fun H locs hP hD hS => ?_)
    have hW : Wd D A s [(a0, .inr (0, [.ref a1, .int (nI (cnt + 1))])), (a1, .inl (cy 1, n0, .inl (upd f cnt (b8 x))))] H locs := ⟨hP, hD, hS⟩
    exact eV hQ hx hb hr hlocks hK hW () (trivial) (rfl) dX0_append_33

set_option maxHeartbeats 4000000 in
set_option maxRecDepth 100000 in
theorem c_X0_appendChain (l : Launch) (D : va_G) (cy : Nat → ClassId) (t : Nat × Nat) (a0 : Nat) (a1 : Nat) (n0 : Nat) (cnt : Nat) (f : Nat → Int32) (b0 : Nat) (w : Nat → Int32) (hc : cnt + 32 ≤ n0) (hn : n0 < 2 ^ 31) (sz : Nat) : Met l yX0_appendChain wsX0_appendChain ({ frames := 1, cells := 0, slots := 0, locals := 21 }) (PcW D cy t [(a0, .inr (0, [.ref a1, .int (nI (cnt))])), (a1, .inl (cy 1, n0, .inl (f))), (b0, .inl (cy 0, 8, .inl (w)))] [.ref a0, .ref b0] sz) (QvA D cy (fun u : Unit => True) (fun u : Unit => [(a0, .inr (0, [.ref a1, .int (nI (cnt + 32))])), (a1, .inl (cy 1, n0, .inl (apG f cnt (fun k => b8 (wby w k)) 32))), (b0, .inl (cy 0, 8, .inl (w)))]) (va_A [(a0, .inr (0, [.ref a1, .int (nI (cnt))])), (a1, .inl (cy 1, n0, .inl (f))), (b0, .inl (cy 0, 8, .inl (w)))] sz)) 0 0 (va_A [(a0, .inr (0, [.ref a1, .int (nI (cnt))])), (a1, .inl (cy 1, n0, .inl (f))), (b0, .inl (cy 0, 8, .inl (w)))] sz) := by
  refine M_ofW (cc := cX0_appendChain) (maxL := 3) (ret := none) (by decide) rfl (Nat.le_of_ble_eq_true rfl) ?_
  intro p e s m below meth c A ls args Q hQ S0 hr hlocks hnm hK hst hA hW hl
  have hx := S0.1; have hb := S0.2.1; have hml := S0.2.2.1; have hown := S0.2.2.2.1; have hts := S0.2.2.2.2
  have hl : lv_has ls 3 [(0, .ref a0), (1, .ref b0)] := hl
  refine lv_iconst (v := nI (0)) hx hb dX0_appendChain_0 (by decide) ?_
  refine lv_istore_n (lv' := [(2, .int (nI (0))), (0, .ref a0), (1, .ref b0)]) hx hb dX0_appendChain_1 rfl hl (by decide) rfl (fun ls hl => ?_)
  have loop2 : ∀ (nF : Nat) (i : Nat), 32 - i < nF → (i ≤ 32) → ∀ (H : Heap) (locs : List Loc), Wd D A s [(a0, .inr (0, [.ref a1, .int (nI (cnt + i))])), (a1, .inl (cy 1, n0, .inl (apG f cnt (fun k => b8 (wby w k)) i))), (b0, .inl (cy 0, 8, .inl (w)))] H locs → ∀ ls : Array Slot, lv_has ls 3 [(0, .ref a0), (1, .ref b0), (2, .int (nI (i)))] → W p l e ({ frames := 1, cells := 0, slots := 0, locals := 21 }) s m args below meth c H locs 0 0 Q (F0 m 2 ls []) := by
    intro nF
    induction nF with
    | zero => intro i hf; exact absurd hf (Nat.not_lt_zero _)
    | succ nF ih =>
      intro i hf hi H locs hW ls hl
      refine lv_iload_n hx hb dX0_appendChain_2 rfl (lv_at hl 2 rfl) ?_
      refine lv_iconst (v := nI (4)) hx hb dX0_appendChain_3 (by decide) ?_
      refine lv_aload_n hx hb dX0_appendChain_4 rfl (lv_at hl 1 rfl) ?_
      refine alI hx hb hK hW 2 0 (ci := 0) rfl rfl dX0_appendChain_5 ?_
      refine lv_imul hx hb dX0_appendChain_6 ?_
      refine tI (pk_mul _ _) ?_
      refine iGe (a := i) (b := 4 * 8) (tgt := 32) hx hb dX0_appendChain_7 (by decide) (by omega) (by omega) (fun h7 => ?_) (fun h7 => ?_)
      · skip
        obtain rfl : i = 32 := by omega
        exact eV hQ hx hb hr hlocks hK hW () (trivial) (rfl) dX0_appendChain_32
      · skip
        refine lv_aload_n hx hb dX0_appendChain_10 rfl (lv_at hl 0 rfl) ?_
        refine lv_aload_n hx hb dX0_appendChain_11 rfl (lv_at hl 1 rfl) ?_
        refine lv_iload_n hx hb dX0_appendChain_12 rfl (lv_at hl 2 rfl) ?_
        refine lv_iconst (v := nI (2)) hx hb dX0_appendChain_13 (by decide) ?_
        refine lv_ishr hx hb dX0_appendChain_14 ?_
        refine tI (x' := nI (i / 2 ^ 2)) (pk_shrN (by omega) _ 2 (by decide)) ?_
        refine rI hx hb hK hW 2 rfl (k := i / 2 ^ 2) (by omega) (by omega) dX0_appendChain_15 ?_
        refine lv_bipush (v := nI (8)) hx hb dX0_appendChain_16 (by decide) ?_
        refine lv_iload_n hx hb dX0_appendChain_18 rfl (lv_at hl 2 rfl) ?_
        refine lv_iconst (v := nI (3)) hx hb dX0_appendChain_19 (by decide) ?_
        refine lv_iand hx hb dX0_appendChain_20 ?_
        refine tI (x' := nI (i % 2 ^ 2)) (pk_andN (by omega) 2 (by decide)) ?_
        refine lv_imul hx hb dX0_appendChain_21 ?_
        refine tI (pk_mul _ _) ?_
        refine lv_iushr hx hb dX0_appendChain_22 rfl ?_
        refine tI (x' := wby w i) (rfl) ?_
        refine kVv (As := [.int (wby w i)]) (rest := []) S0 hK hst hA hW [0, 1] (fun sz => c_X0_append l D cy t a0 a1 n0 (cnt + i) (apG f cnt (fun k => b8 (wby w k)) i) (wby w i) (by omega) (by omega) sz) rfl (by decide) (cwV 1 hts gX0_appendChain_X0_append rfl rfl rfl (by decide +kernel) ⟨Nat.le_of_ble_eq_true rfl, Nat.le_of_ble_eq_true rfl⟩) (fun _ => rfl) 0 0 rfl rfl rfl hl.1 rfl (Nat.le_of_ble_eq_true rfl) dX0_appendChain_23 ⟨Nat.le_of_ble_eq_true rfl, Nat.le_of_ble_eq_true rfl⟩ (fun u23 H locs p23 hW => ?_)
        have hW : Wd D A s [(a0, .inr (0, [.ref a1, .int (nI ((cnt + i) + 1))])), (a1, .inl (cy 1, n0, .inl (upd (apG f cnt (fun k => b8 (wby w k)) i) (cnt + i) (b8 (wby w i))))), (b0, .inl (cy 0, 8, .inl (w)))] H locs := hW
        rw [show (upd (apG f cnt (fun k => b8 (wby w k)) i) (cnt + i) (b8 (wby w i))) = (apG f cnt (fun k => b8 (wby w k)) (i + 1)) from apG_s f cnt (fun k => b8 (wby w k)) i] at hW
        have hW : Wd D A s [(a0, .inr (0, [.ref a1, .int (nI ((cnt + i) + 1))])), (a1, .inl (cy 1, n0, .inl (apG f cnt (fun k => b8 (wby w k)) (i + 1)))), (b0, .inl (cy 0, 8, .inl (w)))] H locs := hW
        refine lv_iinc (v := nI (i + 1)) (lv' := [(2, .int (nI (i + 1))), (0, .ref a0), (1, .ref b0)]) hx hb dX0_appendChain_26 hl (k := 2) rfl (nI_1 _) (by decide) rfl (fun ls hl => ?_)
        refine lv_goto (tgt := 2) hx hb dX0_appendChain_29 (by decide) ?_
        exact ih (i + 1) (by omega) (by omega) _ _ hW _ (lv_sub hl [1, 2, 0] rfl)
  rw [← apG_0 f cnt (fun k => b8 (wby w k))] at hW
  exact loop2 _ 0 (Nat.lt_succ_self _) (by omega) _ _ hW _ (lv_sub hl [1, 2, 0] rfl)

set_option maxHeartbeats 4000000 in
set_option maxRecDepth 100000 in
theorem c_X0_appendFrom (l : Launch) (D : va_G) (cy : Nat → ClassId) (t : Nat × Nat) (a0 : Nat) (a1 : Nat) (n0 : Nat) (cnt : Nat) (f : Nat → Int32) (b0 : Nat) (b1 : Nat) (m0 : Nat) (oc : Nat) (g : Nat → Int32) (k0 : Nat) (n : Nat) (hc : cnt + n ≤ n0) (hn : n0 < 2 ^ 31) (ho : oc ≤ m0) (hm : m0 < 2 ^ 31) (hk : k0 + n ≤ oc) (sz : Nat) : Met l yX0_appendFrom wsX0_appendFrom ({ frames := 1, cells := 0, slots := 0, locals := 21 }) (PcW D cy t [(a0, .inr (0, [.ref a1, .int (nI (cnt))])), (a1, .inl (cy 1, n0, .inl (f))), (b0, .inr (0, [.ref b1, .int (nI (oc))])), (b1, .inl (cy 1, m0, .inl (g)))] [.ref a0, .ref b0, .int (nI (k0)), .int (nI (n))] sz) (QvA D cy (fun u : Unit => True) (fun u : Unit => [(a0, .inr (0, [.ref a1, .int (nI (cnt + n))])), (a1, .inl (cy 1, n0, .inl (apG f cnt (fun k => b8 (g (k0 + k) &&& 255)) n))), (b0, .inr (0, [.ref b1, .int (nI (oc))])), (b1, .inl (cy 1, m0, .inl (g)))]) (va_A [(a0, .inr (0, [.ref a1, .int (nI (cnt))])), (a1, .inl (cy 1, n0, .inl (f))), (b0, .inr (0, [.ref b1, .int (nI (oc))])), (b1, .inl (cy 1, m0, .inl (g)))] sz)) 0 0 (va_A [(a0, .inr (0, [.ref a1, .int (nI (cnt))])), (a1, .inl (cy 1, n0, .inl (f))), (b0, .inr (0, [.ref b1, .int (nI (oc))])), (b1, .inl (cy 1, m0, .inl (g)))] sz) := by
  refine M_ofW (cc := cX0_appendFrom) (maxL := 5) (ret := none) (by decide) rfl (Nat.le_of_ble_eq_true rfl) ?_
  intro p e s m below meth c A ls args Q hQ S0 hr hlocks hnm hK hst hA hW hl
  have hx := S0.1; have hb := S0.2.1; have hml := S0.2.2.1; have hown := S0.2.2.2.1; have hts := S0.2.2.2.2
  have hl : lv_has ls 5 [(0, .ref a0), (1, .ref b0), (2, .int (nI (k0))), (3, .int (nI (n)))] := hl
  refine lv_iconst (v := nI (0)) hx hb dX0_appendFrom_0 (by decide) ?_
  refine lv_istore (lv' := [(4, .int (nI (0))), (0, .ref a0), (1, .ref b0), (2, .int (nI (k0))), (3, .int (nI (n)))]) hx hb dX0_appendFrom_1 hl (by decide) rfl (fun ls hl => ?_)
  have loop3 : ∀ (nF : Nat) (i : Nat), n - i < nF → (i ≤ n) → ∀ (H : Heap) (locs : List Loc), Wd D A s [(a0, .inr (0, [.ref a1, .int (nI (cnt + i))])), (a1, .inl (cy 1, n0, .inl (apG f cnt (fun k => b8 (g (k0 + k) &&& 255)) i))), (b0, .inr (0, [.ref b1, .int (nI (oc))])), (b1, .inl (cy 1, m0, .inl (g)))] H locs → ∀ ls : Array Slot, lv_has ls 5 [(0, .ref a0), (1, .ref b0), (2, .int (nI (k0))), (3, .int (nI (n))), (4, .int (nI (i)))] → W p l e ({ frames := 1, cells := 0, slots := 0, locals := 21 }) s m args below meth c H locs 0 0 Q (F0 m 3 ls []) := by
    intro nF
    induction nF with
    | zero => intro i hf; exact absurd hf (Nat.not_lt_zero _)
    | succ nF ih =>
      intro i hf hi H locs hW ls hl
      refine lv_iload hx hb dX0_appendFrom_3 (lv_at hl 4 rfl) ?_
      refine lv_iload_n hx hb dX0_appendFrom_5 rfl (lv_at hl 3 rfl) ?_
      refine iGe (a := i) (b := n) (tgt := 27) hx hb dX0_appendFrom_6 (by decide) (by omega) (by omega) (fun h6 => ?_) (fun h6 => ?_)
      · skip
        obtain rfl : i = n := by omega
        exact eV hQ hx hb hr hlocks hK hW () (trivial) (rfl) dX0_appendFrom_27
      · skip
        refine lv_aload_n hx hb dX0_appendFrom_9 rfl (lv_at hl 0 rfl) ?_
        refine lv_aload_n hx hb dX0_appendFrom_10 rfl (lv_at hl 1 rfl) ?_
        refine lv_iload_n hx hb dX0_appendFrom_11 rfl (lv_at hl 2 rfl) ?_
        refine lv_iload hx hb dX0_appendFrom_12 (lv_at hl 4 rfl) ?_
        refine lv_iadd hx hb dX0_appendFrom_14 ?_
        refine tI (nI_add _ _) ?_
        refine kVi (As := [.int (nI (k0 + i))]) (rest := [.ref a0]) S0 hK hst hA hW [2, 3] (fun sz => c_X0_byteAt l D cy t b0 b1 m0 oc g (nI (k0 + i)) (by omega) (by omega) sz) rfl (by decide) (cwV 1 hts gX0_appendFrom_X0_byteAt rfl rfl rfl (by decide +kernel) ⟨Nat.le_of_ble_eq_true rfl, Nat.le_of_ble_eq_true rfl⟩) (fun _ => rfl) 0 0 rfl rfl rfl hl.1 rfl (Nat.le_of_ble_eq_true rfl) dX0_appendFrom_15 ⟨Nat.le_of_ble_eq_true rfl, Nat.le_of_ble_eq_true rfl⟩ (fun r15 u15 H locs p15 hW => ?_)
        have hW : Wd D A s [(a0, .inr (0, [.ref a1, .int (nI (cnt + i))])), (a1, .inl (cy 1, n0, .inl (apG f cnt (fun k => b8 (g (k0 + k) &&& 255)) i))), (b0, .inr (0, [.ref b1, .int (nI (oc))])), (b1, .inl (cy 1, m0, .inl (g)))] H locs := hW
        have q15 : r15 = byt g oc (nI (k0 + i)) := p15
        subst q15
        refine tI (x' := g (k0 + i) &&& 255) (byt_in (by omega) (by omega)) ?_
        refine kVv (As := [.int (g (k0 + i) &&& 255)]) (rest := []) S0 hK hst hA hW [0, 1] (fun sz => c_X0_append l D cy t a0 a1 n0 (cnt + i) (apG f cnt (fun k => b8 (g (k0 + k) &&& 255)) i) (g (k0 + i) &&& 255) (by omega) (by omega) sz) rfl (by decide) (cwV 1 hts gX0_appendFrom_X0_append rfl rfl rfl (by decide +kernel) ⟨Nat.le_of_ble_eq_true rfl, Nat.le_of_ble_eq_true rfl⟩) (fun _ => rfl) 0 0 rfl rfl rfl hl.1 rfl (Nat.le_of_ble_eq_true rfl) dX0_appendFrom_18 ⟨Nat.le_of_ble_eq_true rfl, Nat.le_of_ble_eq_true rfl⟩ (fun u18 H locs p18 hW => ?_)
        have hW : Wd D A s [(a0, .inr (0, [.ref a1, .int (nI ((cnt + i) + 1))])), (a1, .inl (cy 1, n0, .inl (upd (apG f cnt (fun k => b8 (g (k0 + k) &&& 255)) i) (cnt + i) (b8 (g (k0 + i) &&& 255))))), (b0, .inr (0, [.ref b1, .int (nI (oc))])), (b1, .inl (cy 1, m0, .inl (g)))] H locs := hW
        rw [show (upd (apG f cnt (fun k => b8 (g (k0 + k) &&& 255)) i) (cnt + i) (b8 (g (k0 + i) &&& 255))) = (apG f cnt (fun k => b8 (g (k0 + k) &&& 255)) (i + 1)) from apG_s f cnt (fun k => b8 (g (k0 + k) &&& 255)) i] at hW
        have hW : Wd D A s [(a0, .inr (0, [.ref a1, .int (nI ((cnt + i) + 1))])), (a1, .inl (cy 1, n0, .inl (apG f cnt (fun k => b8 (g (k0 + k) &&& 255)) (i + 1)))), (b0, .inr (0, [.ref b1, .int (nI (oc))])), (b1, .inl (cy 1, m0, .inl (g)))] H locs := hW
        refine lv_iinc (v := nI (i + 1)) (lv' := [(4, .int (nI (i + 1))), (0, .ref a0), (1, .ref b0), (2, .int (nI (k0))), (3, .int (nI (n)))]) hx hb dX0_appendFrom_21 hl (k := 4) rfl (nI_1 _) (by decide) rfl (fun ls hl => ?_)
        refine lv_goto (tgt := 3) hx hb dX0_appendFrom_24 (by decide) ?_
        exact ih (i + 1) (by omega) (by omega) _ _ hW _ (lv_sub hl [1, 2, 3, 4, 0] rfl)
  rw [← apG_0 f cnt (fun k => b8 (g (k0 + k) &&& 255))] at hW
  exact loop3 _ 0 (Nat.lt_succ_self _) (by omega) _ _ hW _ (lv_sub hl [1, 2, 3, 4, 0] rfl)

theorem f_X0_keepFirst_n_0 : Cond.fieldLink RX0 21 "TreeHashes$Bytes" "count" "I" ∈ wsX0_keepFirst := by decide +kernel
theorem i_X0_keepFirst_n_X0 : ∀ w ∈ wsX00, w ∈ wsX0_keepFirst := by decide +kernel
set_option maxHeartbeats 4000000 in
set_option maxRecDepth 100000 in
theorem c_X0_keepFirst_n (l : Launch) (D : va_G) (cy : Nat → ClassId) (t : Nat × Nat) (a0 : Nat) (a1 : Nat) (n0 : Nat) (cnt : Nat) (f : Nat → Int32) (x : Nat) (hc : cnt ≤ n0) (hn : n0 < 2 ^ 31) (hx0 : x ≤ cnt) (sz : Nat) : Met l yX0_keepFirst wsX0_keepFirst ({ frames := 0, cells := 0, slots := 0, locals := 0 }) (PcW D cy t [(a0, .inr (0, [.ref a1, .int (nI (cnt))])), (a1, .inl (cy 1, n0, .inl (f)))] [.ref a0, .int (nI (x))] sz) (QiA D cy (fun (r : Int32) (u : Unit) => (r = nI (cnt - x))) (fun u : Unit => [(a0, .inr (0, [.ref a1, .int (nI (x))])), (a1, .inl (cy 1, n0, .inl (f)))]) (va_A [(a0, .inr (0, [.ref a1, .int (nI (cnt))])), (a1, .inl (cy 1, n0, .inl (f)))] sz)) 0 0 (va_A [(a0, .inr (0, [.ref a1, .int (nI (cnt))])), (a1, .inl (cy 1, n0, .inl (f)))] sz) := by
  refine M_ofW (cc := cX0_keepFirst) (maxL := 3) (ret := (some .int)) (by decide) rfl (Nat.le_of_ble_eq_true rfl) ?_
  intro p e s m below meth c A ls args Q hQ S0 hr hlocks hnm hK hst hA hW hl
  have hx := S0.1; have hb := S0.2.1; have hml := S0.2.2.1; have hown := S0.2.2.2.1; have hts := S0.2.2.2.2
  have hl : lv_has ls 3 [(0, .ref a0), (1, .int (nI (x)))] := hl
  refine lv_iload_n hx hb dX0_keepFirst_0 rfl (lv_at hl 1 rfl) ?_
  refine zLt (a := x) (tgt := 12) hx hb dX0_keepFirst_1 (by decide) (by omega) ?_
  refine lv_iload_n hx hb dX0_keepFirst_4 rfl (lv_at hl 1 rfl) ?_
  refine lv_aload_n hx hb dX0_keepFirst_5 rfl (lv_at hl 0 rfl) ?_
  refine va_get (D := D) (ci := 0) (v := .int (nI (cnt))) (C := RX0) (T := TX0) (N := 2) hx hb hts i_X0_keepFirst_n_X0 hown hK hW.1 0 rfl rfl 1 (by decide) (hts (.fieldLink RX0 21 "TreeHashes$Bytes" "count" "I") f_X0_keepFirst_n_0) (fun _ h9 => h9) rfl dX0_keepFirst_6 ?_
  refine iLe (a := x) (b := cnt) (tgt := 15) hx hb dX0_keepFirst_9 (by decide) (by omega) (by omega) (fun h9 => ?_) (fun h9 => ?_)
  · skip
    refine lv_aload_n hx hb dX0_keepFirst_15 rfl (lv_at hl 0 rfl) ?_
    refine va_get (D := D) (ci := 0) (v := .int (nI (cnt))) (C := RX0) (T := TX0) (N := 2) hx hb hts i_X0_keepFirst_n_X0 hown hK hW.1 0 rfl rfl 1 (by decide) (hts (.fieldLink RX0 21 "TreeHashes$Bytes" "count" "I") f_X0_keepFirst_n_0) (fun _ h9 => h9) rfl dX0_keepFirst_16 ?_
    refine lv_iload_n hx hb dX0_keepFirst_19 rfl (lv_at hl 1 rfl) ?_
    refine lv_isub hx hb dX0_keepFirst_20 ?_
    refine tI (pk_sub (by omega)) ?_
    refine lv_istore_n (lv' := [(2, .int (nI (cnt - x))), (0, .ref a0), (1, .int (nI (x)))]) hx hb dX0_keepFirst_21 rfl hl (by decide) rfl (fun ls hl => ?_)
    refine lv_aload_n hx hb dX0_keepFirst_22 rfl (lv_at hl 1 rfl) ?_
    refine lv_iload_n hx hb dX0_keepFirst_23 rfl (lv_at hl 2 rfl) ?_
    refine va_put (D := D) (ci := 0) (v := .int (nI (x))) (ty := .int) (C := RX0) (T := TX0) (N := 2) hx hb hts i_X0_keepFirst_n_X0 tyX0 tyX0_ok nmX0 hown hK hW.1 hW.2.1 hW.2.2 0 rfl rfl 1 (by decide) (hts (.fieldLink RX0 21 "TreeHashes$Bytes" "count" "I") f_X0_keepFirst_n_0) (fun _ h9 => h9) rfl (by decide +kernel) rfl rfl (Nat.le_of_ble_eq_true rfl) dX0_keepFirst_24 (fun H locs hP hD hS => ?_)
    have hW : Wd D A s [(a0, .inr (0, [.ref a1, .int (nI (x))])), (a1, .inl (cy 1, n0, .inl (f)))] H locs := ⟨hP, hD, hS⟩
    refine lv_iload_n hx hb dX0_keepFirst_27 rfl (lv_at hl 0 rfl) ?_
    exact eI hQ hx hb hr hlocks hK hW () (rfl) (rfl) dX0_keepFirst_28
  · skip
    exfalso; omega

theorem f_X0_keepFirst_0 : Cond.fieldLink RX0 21 "TreeHashes$Bytes" "count" "I" ∈ wsX0_keepFirst := by decide +kernel
theorem i_X0_keepFirst_X0 : ∀ w ∈ wsX00, w ∈ wsX0_keepFirst := by decide +kernel
set_option maxHeartbeats 4000000 in
set_option maxRecDepth 100000 in
theorem c_X0_keepFirst (l : Launch) (D : va_G) (cy : Nat → ClassId) (t : Nat × Nat) (a0 : Nat) (a1 : Nat) (n0 : Nat) (cnt : Nat) (f : Nat → Int32) (x : Int32) (hc : cnt ≤ n0) (hn : n0 < 2 ^ 31) (sz : Nat) : Met l yX0_keepFirst wsX0_keepFirst ({ frames := 0, cells := 0, slots := 0, locals := 0 }) (PcW D cy t [(a0, .inr (0, [.ref a1, .int (nI (cnt))])), (a1, .inl (cy 1, n0, .inl (f)))] [.ref a0, .int (x)] sz) (QiA D cy (fun (r : Int32) (u : (Nat)) => match u with | c2 => ((c2 = cnt ∧ r = (-2) ∧ (x < 0 ∨ nI cnt < x)) ∨ (c2 ≤ cnt ∧ x = nI c2 ∧ r = nI (cnt - c2)))) (fun u : (Nat) => match u with | c2 => [(a0, .inr (0, [.ref a1, .int (nI (c2))])), (a1, .inl (cy 1, n0, .inl (f)))]) (va_A [(a0, .inr (0, [.ref a1, .int (nI (cnt))])), (a1, .inl (cy 1, n0, .inl (f)))] sz)) 0 0 (va_A [(a0, .inr (0, [.ref a1, .int (nI (cnt))])), (a1, .inl (cy 1, n0, .inl (f)))] sz) := by
  refine M_ofW (cc := cX0_keepFirst) (maxL := 3) (ret := (some .int)) (by decide) rfl (Nat.le_of_ble_eq_true rfl) ?_
  intro p e s m below meth c A ls args Q hQ S0 hr hlocks hnm hK hst hA hW hl
  have hx := S0.1; have hb := S0.2.1; have hml := S0.2.2.1; have hown := S0.2.2.2.1; have hts := S0.2.2.2.2
  have hl : lv_has ls 3 [(0, .ref a0), (1, .int (x))] := hl
  refine lv_iload_n hx hb dX0_keepFirst_0 rfl (lv_at hl 1 rfl) ?_
  refine lv_if_lt (tgt := 12) hx hb dX0_keepFirst_1 (by decide) (fun h1 => ?_) (fun h1 => ?_)
  · skip
    refine lv_bipush (v := (-2 : Int32)) hx hb dX0_keepFirst_12 (by decide) ?_
    exact eI hQ hx hb hr hlocks hK hW cnt (Or.inl ⟨rfl, rfl, Or.inl h1⟩) (rfl) dX0_keepFirst_14
  · skip
    refine lv_iload_n hx hb dX0_keepFirst_4 rfl (lv_at hl 1 rfl) ?_
    refine lv_aload_n hx hb dX0_keepFirst_5 rfl (lv_at hl 0 rfl) ?_
    refine va_get (D := D) (ci := 0) (v := .int (nI (cnt))) (C := RX0) (T := TX0) (N := 2) hx hb hts i_X0_keepFirst_X0 hown hK hW.1 0 rfl rfl 1 (by decide) (hts (.fieldLink RX0 21 "TreeHashes$Bytes" "count" "I") f_X0_keepFirst_0) (fun _ h9 => h9) rfl dX0_keepFirst_6 ?_
    refine lv_icmp_le (tgt := 15) hx hb dX0_keepFirst_9 (by decide) (fun h9 => ?_) (fun h9 => ?_)
    · skip
      obtain ⟨j, hj, ej⟩ := ix_le h1 h9 (by omega)
      subst ej
      refine lv_aload_n hx hb dX0_keepFirst_15 rfl (lv_at hl 0 rfl) ?_
      refine va_get (D := D) (ci := 0) (v := .int (nI (cnt))) (C := RX0) (T := TX0) (N := 2) hx hb hts i_X0_keepFirst_X0 hown hK hW.1 0 rfl rfl 1 (by decide) (hts (.fieldLink RX0 21 "TreeHashes$Bytes" "count" "I") f_X0_keepFirst_0) (fun _ h9 => h9) rfl dX0_keepFirst_16 ?_
      refine lv_iload_n hx hb dX0_keepFirst_19 rfl (lv_at hl 1 rfl) ?_
      refine lv_isub hx hb dX0_keepFirst_20 ?_
      refine tI (pk_sub (by omega)) ?_
      refine lv_istore_n (lv' := [(2, .int (nI (cnt - j))), (0, .ref a0), (1, .int (nI (j)))]) hx hb dX0_keepFirst_21 rfl hl (by decide) rfl (fun ls hl => ?_)
      refine lv_aload_n hx hb dX0_keepFirst_22 rfl (lv_at hl 1 rfl) ?_
      refine lv_iload_n hx hb dX0_keepFirst_23 rfl (lv_at hl 2 rfl) ?_
      refine va_put (D := D) (ci := 0) (v := .int (nI (j))) (ty := .int) (C := RX0) (T := TX0) (N := 2) hx hb hts i_X0_keepFirst_X0 tyX0 tyX0_ok nmX0 hown hK hW.1 hW.2.1 hW.2.2 0 rfl rfl 1 (by decide) (hts (.fieldLink RX0 21 "TreeHashes$Bytes" "count" "I") f_X0_keepFirst_0) (fun _ h9 => h9) rfl (by decide +kernel) rfl rfl (Nat.le_of_ble_eq_true rfl) dX0_keepFirst_24 (fun H locs hP hD hS => ?_)
      have hW : Wd D A s [(a0, .inr (0, [.ref a1, .int (nI (j))])), (a1, .inl (cy 1, n0, .inl (f)))] H locs := ⟨hP, hD, hS⟩
      refine lv_iload_n hx hb dX0_keepFirst_27 rfl (lv_at hl 0 rfl) ?_
      exact eI hQ hx hb hr hlocks hK hW j (Or.inr ⟨hj, rfl, rfl⟩) (rfl) dX0_keepFirst_28
    · skip
      refine lv_bipush (v := (-2 : Int32)) hx hb dX0_keepFirst_12 (by decide) ?_
      exact eI hQ hx hb hr hlocks hK hW cnt (Or.inl ⟨rfl, rfl, Or.inr (Int32.not_le.mp h9)⟩) (rfl) dX0_keepFirst_14

theorem f_X0_change_0 : Cond.fieldLink RX0 21 "TreeHashes$Bytes" "count" "I" ∈ wsX0_change := by decide +kernel
theorem i_X0_change_X0 : ∀ w ∈ wsX00, w ∈ wsX0_change := by decide +kernel
theorem f_X0_change_2 : Cond.fieldLink RX0 15 "TreeHashes$Bytes" "row" "[B" ∈ wsX0_change := by decide +kernel
set_option maxHeartbeats 4000000 in
set_option maxRecDepth 100000 in
theorem c_X0_change (l : Launch) (D : va_G) (cy : Nat → ClassId) (t : Nat × Nat) (a0 : Nat) (a1 : Nat) (n0 : Nat) (cnt : Nat) (f : Nat → Int32) (i : Int32) (x : Int32) (hc : cnt ≤ n0) (hn : n0 < 2 ^ 31) (sz : Nat) : Met l yX0_change wsX0_change ({ frames := 0, cells := 0, slots := 0, locals := 0 }) (PcW D cy t [(a0, .inr (0, [.ref a1, .int (nI (cnt))])), (a1, .inl (cy 1, n0, .inl (f)))] [.ref a0, .int (i), .int (x)] sz) (QiA D cy (fun (r : Int32) (u : (Nat → Int32)) => match u with | f2 => ((f2 = f ∧ r = (-2) ∧ (i < 0 ∨ nI cnt ≤ i ∨ x < 0 ∨ nI 255 < x)) ∨ ∃ j k : Nat, j < cnt ∧ k ≤ 255 ∧ i = nI j ∧ x = nI k ∧ f2 = upd f j (b8 (f j ^^^ nI k)) ∧ r = b8 (f j ^^^ nI k) &&& 255)) (fun u : (Nat → Int32) => match u with | f2 => [(a0, .inr (0, [.ref a1, .int (nI (cnt))])), (a1, .inl (cy 1, n0, .inl (f2)))]) (va_A [(a0, .inr (0, [.ref a1, .int (nI (cnt))])), (a1, .inl (cy 1, n0, .inl (f)))] sz)) 0 0 (va_A [(a0, .inr (0, [.ref a1, .int (nI (cnt))])), (a1, .inl (cy 1, n0, .inl (f)))] sz) := by
  refine M_ofW (cc := cX0_change) (maxL := 3) (ret := (some .int)) (by decide) rfl (Nat.le_of_ble_eq_true rfl) ?_
  intro p e s m below meth c A ls args Q hQ S0 hr hlocks hnm hK hst hA hW hl
  have hx := S0.1; have hb := S0.2.1; have hml := S0.2.2.1; have hown := S0.2.2.2.1; have hts := S0.2.2.2.2
  have hl : lv_has ls 3 [(0, .ref a0), (1, .int (i)), (2, .int (x))] := hl
  refine lv_iload_n hx hb dX0_change_0 rfl (lv_at hl 1 rfl) ?_
  refine lv_if_lt (tgt := 23) hx hb dX0_change_1 (by decide) (fun h1 => ?_) (fun h1 => ?_)
  · skip
    refine lv_bipush (v := (-2 : Int32)) hx hb dX0_change_23 (by decide) ?_
    exact eI hQ hx hb hr hlocks hK hW f (Or.inl ⟨rfl, rfl, Or.inl h1⟩) (rfl) dX0_change_25
  · skip
    refine lv_iload_n hx hb dX0_change_4 rfl (lv_at hl 1 rfl) ?_
    refine lv_aload_n hx hb dX0_change_5 rfl (lv_at hl 0 rfl) ?_
    refine va_get (D := D) (ci := 0) (v := .int (nI (cnt))) (C := RX0) (T := TX0) (N := 2) hx hb hts i_X0_change_X0 hown hK hW.1 0 rfl rfl 1 (by decide) (hts (.fieldLink RX0 21 "TreeHashes$Bytes" "count" "I") f_X0_change_0) (fun _ h9 => h9) rfl dX0_change_6 ?_
    refine lv_icmp_ge (tgt := 23) hx hb dX0_change_9 (by decide) (fun h9 => ?_) (fun h9 => ?_)
    · skip
      refine lv_bipush (v := (-2 : Int32)) hx hb dX0_change_23 (by decide) ?_
      exact eI hQ hx hb hr hlocks hK hW f (Or.inl ⟨rfl, rfl, Or.inr (Or.inl h9)⟩) (rfl) dX0_change_25
    · skip
      obtain ⟨j, hj, ej⟩ := ix_lt h1 h9 (by omega)
      subst ej
      refine lv_iload_n hx hb dX0_change_12 rfl (lv_at hl 2 rfl) ?_
      refine lv_if_lt (tgt := 23) hx hb dX0_change_13 (by decide) (fun h13 => ?_) (fun h13 => ?_)
      · skip
        refine lv_bipush (v := (-2 : Int32)) hx hb dX0_change_23 (by decide) ?_
        exact eI hQ hx hb hr hlocks hK hW f (Or.inl ⟨rfl, rfl, Or.inr (Or.inr (Or.inl h13))⟩) (rfl) dX0_change_25
      · skip
        refine lv_iload_n hx hb dX0_change_16 rfl (lv_at hl 2 rfl) ?_
        refine lv_sipush (v := nI (255)) hx hb dX0_change_17 (by decide) ?_
        refine lv_icmp_le (tgt := 26) hx hb dX0_change_20 (by decide) (fun h20 => ?_) (fun h20 => ?_)
        · skip
          obtain ⟨k, hk, ek⟩ := ix_le h13 h20 (by omega)
          subst ek
          refine lv_aload_n hx hb dX0_change_26 rfl (lv_at hl 0 rfl) ?_
          refine va_get (D := D) (ci := 0) (v := .ref a1) (C := RX0) (T := TX0) (N := 2) hx hb hts i_X0_change_X0 hown hK hW.1 0 rfl rfl 0 (by decide) (hts (.fieldLink RX0 15 "TreeHashes$Bytes" "row" "[B") f_X0_change_2) (fun _ h9 => h9) rfl dX0_change_27 ?_
          refine lv_iload_n hx hb dX0_change_30 rfl (lv_at hl 1 rfl) ?_
          refine lv_aload_n hx hb dX0_change_31 rfl (lv_at hl 0 rfl) ?_
          refine va_get (D := D) (ci := 0) (v := .ref a1) (C := RX0) (T := TX0) (N := 2) hx hb hts i_X0_change_X0 hown hK hW.1 0 rfl rfl 0 (by decide) (hts (.fieldLink RX0 15 "TreeHashes$Bytes" "row" "[B") f_X0_change_2) (fun _ h9 => h9) rfl dX0_change_32 ?_
          refine lv_iload_n hx hb dX0_change_35 rfl (lv_at hl 1 rfl) ?_
          refine rB hx hb hK hW 1 rfl (k := j) (by omega) (by omega) dX0_change_36 ?_
          refine lv_iload_n hx hb dX0_change_37 rfl (lv_at hl 2 rfl) ?_
          refine lv_ixor hx hb dX0_change_38 ?_
          refine lv_i2b hx hb dX0_change_39 rfl ?_
          refine tI (x' := b8 (f j ^^^ nI k)) (rfl) ?_
          refine wB hx hb hK hW 1 rfl (k := j) (by omega) (by omega) (b8_nar _) dX0_change_40 (fun H locs hW => ?_)
          have hW : Wd D A s [(a0, .inr (0, [.ref a1, .int (nI (cnt))])), (a1, .inl (cy 1, n0, .inl (upd f j (b8 (f j ^^^ nI k)))))] H locs := hW
          refine lv_aload_n hx hb dX0_change_41 rfl (lv_at hl 0 rfl) ?_
          refine va_get (D := D) (ci := 0) (v := .ref a1) (C := RX0) (T := TX0) (N := 2) hx hb hts i_X0_change_X0 hown hK hW.1 0 rfl rfl 0 (by decide) (hts (.fieldLink RX0 15 "TreeHashes$Bytes" "row" "[B") f_X0_change_2) (fun _ h9 => h9) rfl dX0_change_42 ?_
          refine lv_iload_n hx hb dX0_change_45 rfl (lv_at hl 1 rfl) ?_
          refine rB hx hb hK hW 1 rfl (k := j) (by omega) (by omega) dX0_change_46 ?_
          refine tI (x' := b8 (f j ^^^ nI k)) (pk_us) ?_
          refine lv_sipush (v := nI (255)) hx hb dX0_change_47 (by decide) ?_
          refine lv_iand hx hb dX0_change_50 ?_
          exact eI hQ hx hb hr hlocks hK hW _ (Or.inr ⟨j, k, hj, hk, rfl, rfl, rfl, rfl⟩) (rfl) dX0_change_51
        · skip
          refine lv_bipush (v := (-2 : Int32)) hx hb dX0_change_23 (by decide) ?_
          exact eI hQ hx hb hr hlocks hK hW f (Or.inl ⟨rfl, rfl, Or.inr (Or.inr (Or.inr (Int32.not_le.mp h20)))⟩) (rfl) dX0_change_25

set_option maxHeartbeats 4000000 in
set_option maxRecDepth 100000 in
theorem c_X0_wordAt (l : Launch) (D : va_G) (cy : Nat → ClassId) (t : Nat × Nat) (a0 : Nat) (a1 : Nat) (n0 : Nat) (cnt : Nat) (f : Nat → Int32) (i : Nat) (hc : cnt ≤ n0) (hn : n0 < 2 ^ 31) (hi : i + 4 ≤ cnt) (sz : Nat) : Met l yX0_wordAt wsX0_wordAt ({ frames := 1, cells := 0, slots := 0, locals := 21 }) (PcW D cy t [(a0, .inr (0, [.ref a1, .int (nI (cnt))])), (a1, .inl (cy 1, n0, .inl (f)))] [.ref a0, .int (nI (i))] sz) (QiA D cy (fun (r : Int32) (u : Unit) => (r = wrd (lo8 f) i)) (fun u : Unit => [(a0, .inr (0, [.ref a1, .int (nI (cnt))])), (a1, .inl (cy 1, n0, .inl (f)))]) (va_A [(a0, .inr (0, [.ref a1, .int (nI (cnt))])), (a1, .inl (cy 1, n0, .inl (f)))] sz)) 0 0 (va_A [(a0, .inr (0, [.ref a1, .int (nI (cnt))])), (a1, .inl (cy 1, n0, .inl (f)))] sz) := by
  refine M_ofW (cc := cX0_wordAt) (maxL := 2) (ret := (some .int)) (by decide) rfl (Nat.le_of_ble_eq_true rfl) ?_
  intro p e s m below meth c A ls args Q hQ S0 hr hlocks hnm hK hst hA hW hl
  have hx := S0.1; have hb := S0.2.1; have hml := S0.2.2.1; have hown := S0.2.2.2.1; have hts := S0.2.2.2.2
  have hl : lv_has ls 2 [(0, .ref a0), (1, .int (nI (i)))] := hl
  refine lv_aload_n hx hb dX0_wordAt_0 rfl (lv_at hl 0 rfl) ?_
  refine lv_iload_n hx hb dX0_wordAt_1 rfl (lv_at hl 1 rfl) ?_
  refine kVi (As := [.int (nI (i))]) (rest := []) S0 hK hst hA hW [0, 1] (fun sz => c_X0_byteAt l D cy t a0 a1 n0 cnt f (nI (i)) (by omega) (by omega) sz) rfl (by decide) (cwV 1 hts gX0_wordAt_X0_byteAt rfl rfl rfl (by decide +kernel) ⟨Nat.le_of_ble_eq_true rfl, Nat.le_of_ble_eq_true rfl⟩) (fun _ => rfl) 0 0 rfl rfl rfl hl.1 rfl (Nat.le_of_ble_eq_true rfl) dX0_wordAt_2 ⟨Nat.le_of_ble_eq_true rfl, Nat.le_of_ble_eq_true rfl⟩ (fun r2 u2 H locs p2 hW => ?_)
  have hW : Wd D A s [(a0, .inr (0, [.ref a1, .int (nI (cnt))])), (a1, .inl (cy 1, n0, .inl (f)))] H locs := hW
  have q2 : r2 = byt f cnt (nI (i)) := p2
  subst q2
  refine tI (x' := lo8 f i) (byt_in (by omega) (by omega)) ?_
  refine lv_aload_n hx hb dX0_wordAt_5 rfl (lv_at hl 0 rfl) ?_
  refine lv_iload_n hx hb dX0_wordAt_6 rfl (lv_at hl 1 rfl) ?_
  refine lv_iconst (v := nI (1)) hx hb dX0_wordAt_7 (by decide) ?_
  refine lv_iadd hx hb dX0_wordAt_8 ?_
  refine tI (nI_add _ _) ?_
  refine kVi (As := [.int (nI (i + 1))]) (rest := [.int (lo8 f i)]) S0 hK hst hA hW [0, 1] (fun sz => c_X0_byteAt l D cy t a0 a1 n0 cnt f (nI (i + 1)) (by omega) (by omega) sz) rfl (by decide) (cwV 1 hts gX0_wordAt_X0_byteAt rfl rfl rfl (by decide +kernel) ⟨Nat.le_of_ble_eq_true rfl, Nat.le_of_ble_eq_true rfl⟩) (fun _ => rfl) 0 0 rfl rfl rfl hl.1 rfl (Nat.le_of_ble_eq_true rfl) dX0_wordAt_9 ⟨Nat.le_of_ble_eq_true rfl, Nat.le_of_ble_eq_true rfl⟩ (fun r9 u9 H locs p9 hW => ?_)
  have hW : Wd D A s [(a0, .inr (0, [.ref a1, .int (nI (cnt))])), (a1, .inl (cy 1, n0, .inl (f)))] H locs := hW
  have q9 : r9 = byt f cnt (nI (i + 1)) := p9
  subst q9
  refine tI (x' := lo8 f (i + 1)) (byt_in (by omega) (by omega)) ?_
  refine lv_bipush (v := nI (8)) hx hb dX0_wordAt_12 (by decide) ?_
  refine lv_ishl hx hb dX0_wordAt_14 ?_
  refine lv_ior hx hb dX0_wordAt_15 ?_
  refine lv_aload_n hx hb dX0_wordAt_16 rfl (lv_at hl 0 rfl) ?_
  refine lv_iload_n hx hb dX0_wordAt_17 rfl (lv_at hl 1 rfl) ?_
  refine lv_iconst (v := nI (2)) hx hb dX0_wordAt_18 (by decide) ?_
  refine lv_iadd hx hb dX0_wordAt_19 ?_
  refine tI (nI_add _ _) ?_
  refine kVi (As := [.int (nI (i + 2))]) (rest := [.int ((lo8 f i) ||| ((lo8 f (i + 1)) <<< ((nI (8)) &&& 31)))]) S0 hK hst hA hW [0, 1] (fun sz => c_X0_byteAt l D cy t a0 a1 n0 cnt f (nI (i + 2)) (by omega) (by omega) sz) rfl (by decide) (cwV 1 hts gX0_wordAt_X0_byteAt rfl rfl rfl (by decide +kernel) ⟨Nat.le_of_ble_eq_true rfl, Nat.le_of_ble_eq_true rfl⟩) (fun _ => rfl) 0 0 rfl rfl rfl hl.1 rfl (Nat.le_of_ble_eq_true rfl) dX0_wordAt_20 ⟨Nat.le_of_ble_eq_true rfl, Nat.le_of_ble_eq_true rfl⟩ (fun r20 u20 H locs p20 hW => ?_)
  have hW : Wd D A s [(a0, .inr (0, [.ref a1, .int (nI (cnt))])), (a1, .inl (cy 1, n0, .inl (f)))] H locs := hW
  have q20 : r20 = byt f cnt (nI (i + 2)) := p20
  subst q20
  refine tI (x' := lo8 f (i + 2)) (byt_in (by omega) (by omega)) ?_
  refine lv_bipush (v := nI (16)) hx hb dX0_wordAt_23 (by decide) ?_
  refine lv_ishl hx hb dX0_wordAt_25 ?_
  refine lv_ior hx hb dX0_wordAt_26 ?_
  refine lv_aload_n hx hb dX0_wordAt_27 rfl (lv_at hl 0 rfl) ?_
  refine lv_iload_n hx hb dX0_wordAt_28 rfl (lv_at hl 1 rfl) ?_
  refine lv_iconst (v := nI (3)) hx hb dX0_wordAt_29 (by decide) ?_
  refine lv_iadd hx hb dX0_wordAt_30 ?_
  refine tI (nI_add _ _) ?_
  refine kVi (As := [.int (nI (i + 3))]) (rest := [.int (((lo8 f i) ||| ((lo8 f (i + 1)) <<< ((nI (8)) &&& 31))) ||| ((lo8 f (i + 2)) <<< ((nI (16)) &&& 31)))]) S0 hK hst hA hW [0, 1] (fun sz => c_X0_byteAt l D cy t a0 a1 n0 cnt f (nI (i + 3)) (by omega) (by omega) sz) rfl (by decide) (cwV 1 hts gX0_wordAt_X0_byteAt rfl rfl rfl (by decide +kernel) ⟨Nat.le_of_ble_eq_true rfl, Nat.le_of_ble_eq_true rfl⟩) (fun _ => rfl) 0 0 rfl rfl rfl hl.1 rfl (Nat.le_of_ble_eq_true rfl) dX0_wordAt_31 ⟨Nat.le_of_ble_eq_true rfl, Nat.le_of_ble_eq_true rfl⟩ (fun r31 u31 H locs p31 hW => ?_)
  have hW : Wd D A s [(a0, .inr (0, [.ref a1, .int (nI (cnt))])), (a1, .inl (cy 1, n0, .inl (f)))] H locs := hW
  have q31 : r31 = byt f cnt (nI (i + 3)) := p31
  subst q31
  refine tI (x' := lo8 f (i + 3)) (byt_in (by omega) (by omega)) ?_
  refine lv_bipush (v := nI (24)) hx hb dX0_wordAt_34 (by decide) ?_
  refine lv_ishl hx hb dX0_wordAt_36 ?_
  refine lv_ior hx hb dX0_wordAt_37 ?_
  exact eI hQ hx hb hr hlocks hK hW () (rfl) (rfl) dX0_wordAt_38

set_option maxHeartbeats 4000000 in
set_option maxRecDepth 100000 in
theorem c_X0_readChain (l : Launch) (D : va_G) (cy : Nat → ClassId) (t : Nat × Nat) (a0 : Nat) (a1 : Nat) (n0 : Nat) (cnt : Nat) (f : Nat → Int32) (k0 : Nat) (b0 : Nat) (w : Nat → Int32) (hc : cnt ≤ n0) (hn : n0 < 2 ^ 31) (hi : k0 + 32 ≤ cnt) (sz : Nat) : Met l yX0_readChain wsX0_readChain ({ frames := 2, cells := 0, slots := 0, locals := 42 }) (PcW D cy t [(a0, .inr (0, [.ref a1, .int (nI (cnt))])), (a1, .inl (cy 1, n0, .inl (f))), (b0, .inl (cy 0, 8, .inl (w)))] [.ref a0, .int (nI (k0)), .ref b0] sz) (QvA D cy (fun u : Unit => True) (fun u : Unit => [(a0, .inr (0, [.ref a1, .int (nI (cnt))])), (a1, .inl (cy 1, n0, .inl (f))), (b0, .inl (cy 0, 8, .inl (apG w 0 (fun k => wrd (lo8 f) (k0 + 4 * k)) 8)))]) (va_A [(a0, .inr (0, [.ref a1, .int (nI (cnt))])), (a1, .inl (cy 1, n0, .inl (f))), (b0, .inl (cy 0, 8, .inl (w)))] sz)) 0 0 (va_A [(a0, .inr (0, [.ref a1, .int (nI (cnt))])), (a1, .inl (cy 1, n0, .inl (f))), (b0, .inl (cy 0, 8, .inl (w)))] sz) := by
  refine M_ofW (cc := cX0_readChain) (maxL := 4) (ret := none) (by decide) rfl (Nat.le_of_ble_eq_true rfl) ?_
  intro p e s m below meth c A ls args Q hQ S0 hr hlocks hnm hK hst hA hW hl
  have hx := S0.1; have hb := S0.2.1; have hml := S0.2.2.1; have hown := S0.2.2.2.1; have hts := S0.2.2.2.2
  have hl : lv_has ls 4 [(0, .ref a0), (1, .int (nI (k0))), (2, .ref b0)] := hl
  refine lv_iconst (v := nI (0)) hx hb dX0_readChain_0 (by decide) ?_
  refine lv_istore_n (lv' := [(3, .int (nI (0))), (0, .ref a0), (1, .int (nI (k0))), (2, .ref b0)]) hx hb dX0_readChain_1 rfl hl (by decide) rfl (fun ls hl => ?_)
  have loop2 : ∀ (nF : Nat) (i : Nat), 8 - i < nF → (i ≤ 8) → ∀ (H : Heap) (locs : List Loc), Wd D A s [(a0, .inr (0, [.ref a1, .int (nI (cnt))])), (a1, .inl (cy 1, n0, .inl (f))), (b0, .inl (cy 0, 8, .inl (apG w 0 (fun k => wrd (lo8 f) (k0 + 4 * k)) i)))] H locs → ∀ ls : Array Slot, lv_has ls 4 [(0, .ref a0), (1, .int (nI (k0))), (2, .ref b0), (3, .int (nI (i)))] → W p l e ({ frames := 2, cells := 0, slots := 0, locals := 42 }) s m args below meth c H locs 0 0 Q (F0 m 2 ls []) := by
    intro nF
    induction nF with
    | zero => intro i hf; exact absurd hf (Nat.not_lt_zero _)
    | succ nF ih =>
      intro i hf hi2 H locs hW ls hl
      refine lv_iload_n hx hb dX0_readChain_2 rfl (lv_at hl 3 rfl) ?_
      refine lv_bipush (v := nI (8)) hx hb dX0_readChain_3 (by decide) ?_
      refine iGe (a := i) (b := 8) (tgt := 32) hx hb dX0_readChain_5 (by decide) (by omega) (by omega) (fun h5 => ?_) (fun h5 => ?_)
      · skip
        obtain rfl : i = 8 := by omega
        exact eV hQ hx hb hr hlocks hK hW () (trivial) (rfl) dX0_readChain_32
      · skip
        refine lv_iload_n hx hb dX0_readChain_8 rfl (lv_at hl 3 rfl) ?_
        refine lv_aload_n hx hb dX0_readChain_9 rfl (lv_at hl 2 rfl) ?_
        refine alI hx hb hK hW 2 0 (ci := 0) rfl rfl dX0_readChain_10 ?_
        refine iGe (a := i) (b := 8) (tgt := 32) hx hb dX0_readChain_11 (by decide) (by omega) (by omega) (fun h11 => ?_) (fun h11 => ?_)
        · skip
          exfalso; omega
        · skip
          refine lv_aload_n hx hb dX0_readChain_14 rfl (lv_at hl 2 rfl) ?_
          refine lv_iload_n hx hb dX0_readChain_15 rfl (lv_at hl 3 rfl) ?_
          refine lv_aload_n hx hb dX0_readChain_16 rfl (lv_at hl 0 rfl) ?_
          refine lv_iload_n hx hb dX0_readChain_17 rfl (lv_at hl 1 rfl) ?_
          refine lv_iconst (v := nI (4)) hx hb dX0_readChain_18 (by decide) ?_
          refine lv_iload_n hx hb dX0_readChain_19 rfl (lv_at hl 3 rfl) ?_
          refine lv_imul hx hb dX0_readChain_20 ?_
          refine tI (pk_mul _ _) ?_
          refine lv_iadd hx hb dX0_readChain_21 ?_
          refine tI (nI_add _ _) ?_
          refine kVi (As := [.int (nI (k0 + (4 * i)))]) (rest := [.int (nI (i)), .ref b0]) S0 hK hst hA hW [0, 1] (fun sz => c_X0_wordAt l D cy t a0 a1 n0 cnt f (k0 + (4 * i)) (by omega) (by omega) (by omega) sz) rfl (by decide) (cwV 1 hts gX0_readChain_X0_wordAt rfl rfl rfl (by decide +kernel) ⟨Nat.le_of_ble_eq_true rfl, Nat.le_of_ble_eq_true rfl⟩) (fun _ => rfl) 0 0 rfl rfl rfl hl.1 rfl (Nat.le_of_ble_eq_true rfl) dX0_readChain_22 ⟨Nat.le_of_ble_eq_true rfl, Nat.le_of_ble_eq_true rfl⟩ (fun r22 u22 H locs p22 hW => ?_)
          have hW : Wd D A s [(a0, .inr (0, [.ref a1, .int (nI (cnt))])), (a1, .inl (cy 1, n0, .inl (f))), (b0, .inl (cy 0, 8, .inl (apG w 0 (fun k => wrd (lo8 f) (k0 + 4 * k)) i)))] H locs := hW
          have q22 : r22 = wrd (lo8 f) (k0 + (4 * i)) := p22
          subst q22
          refine wI hx hb hK hW 2 rfl (k := i) (by omega) (by omega) dX0_readChain_25 (fun H locs hW => ?_)
          have hW : Wd D A s [(a0, .inr (0, [.ref a1, .int (nI (cnt))])), (a1, .inl (cy 1, n0, .inl (f))), (b0, .inl (cy 0, 8, .inl (upd (apG w 0 (fun k => wrd (lo8 f) (k0 + 4 * k)) i) i (wrd (lo8 f) (k0 + (4 * i))))))] H locs := hW
          rw [show (upd (apG w 0 (fun k => wrd (lo8 f) (k0 + 4 * k)) i) i (wrd (lo8 f) (k0 + (4 * i)))) = (apG w 0 (fun k => wrd (lo8 f) (k0 + 4 * k)) (i + 1)) from by rw [← apG_s w 0 (fun k => wrd (lo8 f) (k0 + 4 * k)) i, Nat.zero_add]] at hW
          have hW : Wd D A s [(a0, .inr (0, [.ref a1, .int (nI (cnt))])), (a1, .inl (cy 1, n0, .inl (f))), (b0, .inl (cy 0, 8, .inl (apG w 0 (fun k => wrd (lo8 f) (k0 + 4 * k)) (i + 1))))] H locs := hW
          refine lv_iinc (v := nI (i + 1)) (lv' := [(3, .int (nI (i + 1))), (0, .ref a0), (1, .int (nI (k0))), (2, .ref b0)]) hx hb dX0_readChain_26 hl (k := 3) rfl (nI_1 _) (by decide) rfl (fun ls hl => ?_)
          refine lv_goto (tgt := 2) hx hb dX0_readChain_29 (by decide) ?_
          exact ih (i + 1) (by omega) (by omega) _ _ hW _ (lv_sub hl [1, 2, 3, 0] rfl)
  rw [← apG_0 w 0 (fun k => wrd (lo8 f) (k0 + 4 * k))] at hW
  exact loop2 _ 0 (Nat.lt_succ_self _) (by omega) _ _ hW _ (lv_sub hl [1, 2, 3, 0] rfl)
end
section
theorem f_X2_turn_0 : Cond.fieldLink RX2 18 "TreeHashes$Mix" "v" "[I" ∈ wsX2_turn := by decide +kernel
theorem i_X2_turn_X2 : ∀ w ∈ wsX20, w ∈ wsX2_turn := by decide +kernel
set_option maxHeartbeats 4000000 in
set_option maxRecDepth 100000 in
theorem c_X2_turn (l : Launch) (D : va_G) (cy : Nat → ClassId) (t : Nat × Nat) (m0 : Nat) (mc : Nat) (mb : Nat) (mv : Nat) (aw : Nat) (an : Nat) (ct : Int64) (ln : Int32) (fl : Int32) (v : Nat → Int32) (ia : Nat) (ib : Nat) (ic : Nat) (id : Nat) (x : Int32) (y : Int32) (ha : ia < 16) (hb0 : ib < 16) (hc : ic < 16) (hd : id < 16) (sz : Nat) : Met l yX2_turn wsX2_turn ({ frames := 0, cells := 0, slots := 0, locals := 0 }) (PcW D cy t [(m0, .inr (2, [.ref mc, .ref mb, .long (ct), .int (ln), .int (fl), .ref mv, .ref aw, .ref an])), (mv, .inl (cy 0, 16, .inl (v)))] [.ref m0, .int (nI (ia)), .int (nI (ib)), .int (nI (ic)), .int (nI (id)), .int (x), .int (y)] sz) (QvA D cy (fun u : Unit => True) (fun u : Unit => [(m0, .inr (2, [.ref mc, .ref mb, .long (ct), .int (ln), .int (fl), .ref mv, .ref aw, .ref an])), (mv, .inl (cy 0, 16, .inl (tn v ia ib ic id x y)))]) (va_A [(m0, .inr (2, [.ref mc, .ref mb, .long (ct), .int (ln), .int (fl), .ref mv, .ref aw, .ref an])), (mv, .inl (cy 0, 16, .inl (v)))] sz)) 0 0 (va_A [(m0, .inr (2, [.ref mc, .ref mb, .long (ct), .int (ln), .int (fl), .ref mv, .ref aw, .ref an])), (mv, .inl (cy 0, 16, .inl (v)))] sz) := by
  refine M_ofW (cc := cX2_turn) (maxL := 11) (ret := none) (by decide) rfl (Nat.le_of_ble_eq_true rfl) ?_
  intro p e s m below meth c A ls args Q hQ S0 hr hlocks hnm hK hst hA hW hl
  have hx := S0.1; have hb := S0.2.1; have hml := S0.2.2.1; have hown := S0.2.2.2.1; have hts := S0.2.2.2.2
  have hl : lv_has ls 11 [(0, .ref m0), (1, .int (nI (ia))), (2, .int (nI (ib))), (3, .int (nI (ic))), (4, .int (nI (id))), (5, .int (x)), (6, .int (y))] := hl
  refine lv_aload_n hx hb dX2_turn_0 rfl (lv_at hl 0 rfl) ?_
  refine va_get (D := D) (ci := 2) (v := .ref mv) (C := RX2) (T := TX2) (N := 8) hx hb hts i_X2_turn_X2 hown hK hW.1 0 rfl rfl 5 (by decide) (hts (.fieldLink RX2 18 "TreeHashes$Mix" "v" "[I") f_X2_turn_0) (fun _ h9 => h9) rfl dX2_turn_1 ?_
  refine lv_iload_n hx hb dX2_turn_4 rfl (lv_at hl 1 rfl) ?_
  refine rI hx hb hK hW 1 rfl (k := ia) (by omega) (by omega) dX2_turn_5 ?_
  refine lv_aload_n hx hb dX2_turn_6 rfl (lv_at hl 0 rfl) ?_
  refine va_get (D := D) (ci := 2) (v := .ref mv) (C := RX2) (T := TX2) (N := 8) hx hb hts i_X2_turn_X2 hown hK hW.1 0 rfl rfl 5 (by decide) (hts (.fieldLink RX2 18 "TreeHashes$Mix" "v" "[I") f_X2_turn_0) (fun _ h9 => h9) rfl dX2_turn_7 ?_
  refine lv_iload_n hx hb dX2_turn_10 rfl (lv_at hl 2 rfl) ?_
  refine rI hx hb hK hW 1 rfl (k := ib) (by omega) (by omega) dX2_turn_11 ?_
  refine lv_iadd hx hb dX2_turn_12 ?_
  refine lv_iload hx hb dX2_turn_13 (lv_at hl 5 rfl) ?_
  refine lv_iadd hx hb dX2_turn_15 ?_
  refine lv_topi (fun va1 e_va1 => ?_)
  refine lv_istore (lv' := [(7, .int (va1)), (0, .ref m0), (1, .int (nI (ia))), (2, .int (nI (ib))), (3, .int (nI (ic))), (4, .int (nI (id))), (5, .int (x)), (6, .int (y))]) hx hb dX2_turn_16 hl (by decide) rfl (fun ls hl => ?_)
  refine lv_aload_n hx hb dX2_turn_18 rfl (lv_at hl 1 rfl) ?_
  refine va_get (D := D) (ci := 2) (v := .ref mv) (C := RX2) (T := TX2) (N := 8) hx hb hts i_X2_turn_X2 hown hK hW.1 0 rfl rfl 5 (by decide) (hts (.fieldLink RX2 18 "TreeHashes$Mix" "v" "[I") f_X2_turn_0) (fun _ h9 => h9) rfl dX2_turn_19 ?_
  refine lv_iload hx hb dX2_turn_22 (lv_at hl 5 rfl) ?_
  refine rI hx hb hK hW 1 rfl (k := id) (by omega) (by omega) dX2_turn_24 ?_
  refine lv_iload hx hb dX2_turn_25 (lv_at hl 0 rfl) ?_
  refine lv_ixor hx hb dX2_turn_27 ?_
  refine lv_topi (fun vd1 e_vd1 => ?_)
  refine lv_istore (lv' := [(8, .int (vd1)), (7, .int (va1)), (0, .ref m0), (1, .int (nI (ia))), (2, .int (nI (ib))), (3, .int (nI (ic))), (4, .int (nI (id))), (5, .int (x)), (6, .int (y))]) hx hb dX2_turn_28 hl (by decide) rfl (fun ls hl => ?_)
  refine lv_iload hx hb dX2_turn_30 (lv_at hl 0 rfl) ?_
  refine lv_bipush (v := nI (16)) hx hb dX2_turn_32 (by decide) ?_
  refine lv_iushr hx hb dX2_turn_34 rfl ?_
  refine lv_iload hx hb dX2_turn_35 (lv_at hl 0 rfl) ?_
  refine lv_bipush (v := nI (16)) hx hb dX2_turn_37 (by decide) ?_
  refine lv_ishl hx hb dX2_turn_39 ?_
  refine lv_ior hx hb dX2_turn_40 ?_
  refine lv_topi (fun vd2 e_vd2 => ?_)
  refine lv_istore (lv' := [(8, .int (vd2)), (7, .int (va1)), (0, .ref m0), (1, .int (nI (ia))), (2, .int (nI (ib))), (3, .int (nI (ic))), (4, .int (nI (id))), (5, .int (x)), (6, .int (y))]) hx hb dX2_turn_41 hl (by decide) rfl (fun ls hl => ?_)
  refine lv_aload_n hx hb dX2_turn_43 rfl (lv_at hl 2 rfl) ?_
  refine va_get (D := D) (ci := 2) (v := .ref mv) (C := RX2) (T := TX2) (N := 8) hx hb hts i_X2_turn_X2 hown hK hW.1 0 rfl rfl 5 (by decide) (hts (.fieldLink RX2 18 "TreeHashes$Mix" "v" "[I") f_X2_turn_0) (fun _ h9 => h9) rfl dX2_turn_44 ?_
  refine lv_iload_n hx hb dX2_turn_47 rfl (lv_at hl 5 rfl) ?_
  refine rI hx hb hK hW 1 rfl (k := ic) (by omega) (by omega) dX2_turn_48 ?_
  refine lv_iload hx hb dX2_turn_49 (lv_at hl 0 rfl) ?_
  refine lv_iadd hx hb dX2_turn_51 ?_
  refine lv_topi (fun vc1 e_vc1 => ?_)
  refine lv_istore (lv' := [(9, .int (vc1)), (8, .int (vd2)), (7, .int (va1)), (0, .ref m0), (1, .int (nI (ia))), (2, .int (nI (ib))), (3, .int (nI (ic))), (4, .int (nI (id))), (5, .int (x)), (6, .int (y))]) hx hb dX2_turn_52 hl (by decide) rfl (fun ls hl => ?_)
  refine lv_aload_n hx hb dX2_turn_54 rfl (lv_at hl 3 rfl) ?_
  refine va_get (D := D) (ci := 2) (v := .ref mv) (C := RX2) (T := TX2) (N := 8) hx hb hts i_X2_turn_X2 hown hK hW.1 0 rfl rfl 5 (by decide) (hts (.fieldLink RX2 18 "TreeHashes$Mix" "v" "[I") f_X2_turn_0) (fun _ h9 => h9) rfl dX2_turn_55 ?_
  refine lv_iload_n hx hb dX2_turn_58 rfl (lv_at hl 5 rfl) ?_
  refine rI hx hb hK hW 1 rfl (k := ib) (by omega) (by omega) dX2_turn_59 ?_
  refine lv_iload hx hb dX2_turn_60 (lv_at hl 0 rfl) ?_
  refine lv_ixor hx hb dX2_turn_62 ?_
  refine lv_topi (fun vb1 e_vb1 => ?_)
  refine lv_istore (lv' := [(10, .int (vb1)), (9, .int (vc1)), (8, .int (vd2)), (7, .int (va1)), (0, .ref m0), (1, .int (nI (ia))), (2, .int (nI (ib))), (3, .int (nI (ic))), (4, .int (nI (id))), (5, .int (x)), (6, .int (y))]) hx hb dX2_turn_63 hl (by decide) rfl (fun ls hl => ?_)
  refine lv_iload hx hb dX2_turn_65 (lv_at hl 0 rfl) ?_
  refine lv_bipush (v := nI (12)) hx hb dX2_turn_67 (by decide) ?_
  refine lv_iushr hx hb dX2_turn_69 rfl ?_
  refine lv_iload hx hb dX2_turn_70 (lv_at hl 0 rfl) ?_
  refine lv_bipush (v := nI (20)) hx hb dX2_turn_72 (by decide) ?_
  refine lv_ishl hx hb dX2_turn_74 ?_
  refine lv_ior hx hb dX2_turn_75 ?_
  refine lv_topi (fun vb2 e_vb2 => ?_)
  refine lv_istore (lv' := [(10, .int (vb2)), (9, .int (vc1)), (8, .int (vd2)), (7, .int (va1)), (0, .ref m0), (1, .int (nI (ia))), (2, .int (nI (ib))), (3, .int (nI (ic))), (4, .int (nI (id))), (5, .int (x)), (6, .int (y))]) hx hb dX2_turn_76 hl (by decide) rfl (fun ls hl => ?_)
  refine lv_iload hx hb dX2_turn_78 (lv_at hl 3 rfl) ?_
  refine lv_iload hx hb dX2_turn_80 (lv_at hl 0 rfl) ?_
  refine lv_iload hx hb dX2_turn_82 (lv_at hl 10 rfl) ?_
  refine lv_iadd hx hb dX2_turn_84 ?_
  refine lv_iadd hx hb dX2_turn_85 ?_
  refine lv_topi (fun va2 e_va2 => ?_)
  refine lv_istore (lv' := [(7, .int (va2)), (10, .int (vb2)), (9, .int (vc1)), (8, .int (vd2)), (0, .ref m0), (1, .int (nI (ia))), (2, .int (nI (ib))), (3, .int (nI (ic))), (4, .int (nI (id))), (5, .int (x)), (6, .int (y))]) hx hb dX2_turn_86 hl (by decide) rfl (fun ls hl => ?_)
  refine lv_iload hx hb dX2_turn_88 (lv_at hl 3 rfl) ?_
  refine lv_iload hx hb dX2_turn_90 (lv_at hl 0 rfl) ?_
  refine lv_ixor hx hb dX2_turn_92 ?_
  refine lv_topi (fun vd3 e_vd3 => ?_)
  refine lv_istore (lv' := [(8, .int (vd3)), (7, .int (va2)), (10, .int (vb2)), (9, .int (vc1)), (0, .ref m0), (1, .int (nI (ia))), (2, .int (nI (ib))), (3, .int (nI (ic))), (4, .int (nI (id))), (5, .int (x)), (6, .int (y))]) hx hb dX2_turn_93 hl (by decide) rfl (fun ls hl => ?_)
  refine lv_iload hx hb dX2_turn_95 (lv_at hl 0 rfl) ?_
  refine lv_bipush (v := nI (8)) hx hb dX2_turn_97 (by decide) ?_
  refine lv_iushr hx hb dX2_turn_99 rfl ?_
  refine lv_iload hx hb dX2_turn_100 (lv_at hl 0 rfl) ?_
  refine lv_bipush (v := nI (24)) hx hb dX2_turn_102 (by decide) ?_
  refine lv_ishl hx hb dX2_turn_104 ?_
  refine lv_ior hx hb dX2_turn_105 ?_
  refine lv_topi (fun vd4 e_vd4 => ?_)
  refine lv_istore (lv' := [(8, .int (vd4)), (7, .int (va2)), (10, .int (vb2)), (9, .int (vc1)), (0, .ref m0), (1, .int (nI (ia))), (2, .int (nI (ib))), (3, .int (nI (ic))), (4, .int (nI (id))), (5, .int (x)), (6, .int (y))]) hx hb dX2_turn_106 hl (by decide) rfl (fun ls hl => ?_)
  refine lv_iload hx hb dX2_turn_108 (lv_at hl 3 rfl) ?_
  refine lv_iload hx hb dX2_turn_110 (lv_at hl 0 rfl) ?_
  refine lv_iadd hx hb dX2_turn_112 ?_
  refine lv_topi (fun vc2 e_vc2 => ?_)
  refine lv_istore (lv' := [(9, .int (vc2)), (8, .int (vd4)), (7, .int (va2)), (10, .int (vb2)), (0, .ref m0), (1, .int (nI (ia))), (2, .int (nI (ib))), (3, .int (nI (ic))), (4, .int (nI (id))), (5, .int (x)), (6, .int (y))]) hx hb dX2_turn_113 hl (by decide) rfl (fun ls hl => ?_)
  refine lv_iload hx hb dX2_turn_115 (lv_at hl 3 rfl) ?_
  refine lv_iload hx hb dX2_turn_117 (lv_at hl 0 rfl) ?_
  refine lv_ixor hx hb dX2_turn_119 ?_
  refine lv_topi (fun vb3 e_vb3 => ?_)
  refine lv_istore (lv' := [(10, .int (vb3)), (9, .int (vc2)), (8, .int (vd4)), (7, .int (va2)), (0, .ref m0), (1, .int (nI (ia))), (2, .int (nI (ib))), (3, .int (nI (ic))), (4, .int (nI (id))), (5, .int (x)), (6, .int (y))]) hx hb dX2_turn_120 hl (by decide) rfl (fun ls hl => ?_)
  refine lv_iload hx hb dX2_turn_122 (lv_at hl 0 rfl) ?_
  refine lv_bipush (v := nI (7)) hx hb dX2_turn_124 (by decide) ?_
  refine lv_iushr hx hb dX2_turn_126 rfl ?_
  refine lv_iload hx hb dX2_turn_127 (lv_at hl 0 rfl) ?_
  refine lv_bipush (v := nI (25)) hx hb dX2_turn_129 (by decide) ?_
  refine lv_ishl hx hb dX2_turn_131 ?_
  refine lv_ior hx hb dX2_turn_132 ?_
  refine lv_topi (fun vb4 e_vb4 => ?_)
  refine lv_istore (lv' := [(10, .int (vb4)), (9, .int (vc2)), (8, .int (vd4)), (7, .int (va2)), (0, .ref m0), (1, .int (nI (ia))), (2, .int (nI (ib))), (3, .int (nI (ic))), (4, .int (nI (id))), (5, .int (x)), (6, .int (y))]) hx hb dX2_turn_133 hl (by decide) rfl (fun ls hl => ?_)
  refine lv_aload_n hx hb dX2_turn_135 rfl (lv_at hl 4 rfl) ?_
  refine va_get (D := D) (ci := 2) (v := .ref mv) (C := RX2) (T := TX2) (N := 8) hx hb hts i_X2_turn_X2 hown hK hW.1 0 rfl rfl 5 (by decide) (hts (.fieldLink RX2 18 "TreeHashes$Mix" "v" "[I") f_X2_turn_0) (fun _ h9 => h9) rfl dX2_turn_136 ?_
  refine lv_iload_n hx hb dX2_turn_139 rfl (lv_at hl 5 rfl) ?_
  refine lv_iload hx hb dX2_turn_140 (lv_at hl 3 rfl) ?_
  refine wI hx hb hK hW 1 rfl (k := ia) (by omega) (by omega) dX2_turn_142 (fun H locs hW => ?_)
  have hW : Wd D A s [(m0, .inr (2, [.ref mc, .ref mb, .long (ct), .int (ln), .int (fl), .ref mv, .ref aw, .ref an])), (mv, .inl (cy 0, 16, .inl (upd v ia va2)))] H locs := hW
  refine lv_aload_n hx hb dX2_turn_143 rfl (lv_at hl 4 rfl) ?_
  refine va_get (D := D) (ci := 2) (v := .ref mv) (C := RX2) (T := TX2) (N := 8) hx hb hts i_X2_turn_X2 hown hK hW.1 0 rfl rfl 5 (by decide) (hts (.fieldLink RX2 18 "TreeHashes$Mix" "v" "[I") f_X2_turn_0) (fun _ h9 => h9) rfl dX2_turn_144 ?_
  refine lv_iload_n hx hb dX2_turn_147 rfl (lv_at hl 6 rfl) ?_
  refine lv_iload hx hb dX2_turn_148 (lv_at hl 0 rfl) ?_
  refine wI hx hb hK hW 1 rfl (k := ib) (by omega) (by omega) dX2_turn_150 (fun H locs hW => ?_)
  have hW : Wd D A s [(m0, .inr (2, [.ref mc, .ref mb, .long (ct), .int (ln), .int (fl), .ref mv, .ref aw, .ref an])), (mv, .inl (cy 0, 16, .inl (upd (upd v ia va2) ib vb4)))] H locs := hW
  refine lv_aload_n hx hb dX2_turn_151 rfl (lv_at hl 4 rfl) ?_
  refine va_get (D := D) (ci := 2) (v := .ref mv) (C := RX2) (T := TX2) (N := 8) hx hb hts i_X2_turn_X2 hown hK hW.1 0 rfl rfl 5 (by decide) (hts (.fieldLink RX2 18 "TreeHashes$Mix" "v" "[I") f_X2_turn_0) (fun _ h9 => h9) rfl dX2_turn_152 ?_
  refine lv_iload_n hx hb dX2_turn_155 rfl (lv_at hl 7 rfl) ?_
  refine lv_iload hx hb dX2_turn_156 (lv_at hl 1 rfl) ?_
  refine wI hx hb hK hW 1 rfl (k := ic) (by omega) (by omega) dX2_turn_158 (fun H locs hW => ?_)
  have hW : Wd D A s [(m0, .inr (2, [.ref mc, .ref mb, .long (ct), .int (ln), .int (fl), .ref mv, .ref aw, .ref an])), (mv, .inl (cy 0, 16, .inl (upd (upd (upd v ia va2) ib vb4) ic vc2)))] H locs := hW
  refine lv_aload_n hx hb dX2_turn_159 rfl (lv_at hl 4 rfl) ?_
  refine va_get (D := D) (ci := 2) (v := .ref mv) (C := RX2) (T := TX2) (N := 8) hx hb hts i_X2_turn_X2 hown hK hW.1 0 rfl rfl 5 (by decide) (hts (.fieldLink RX2 18 "TreeHashes$Mix" "v" "[I") f_X2_turn_0) (fun _ h9 => h9) rfl dX2_turn_160 ?_
  refine lv_iload hx hb dX2_turn_163 (lv_at hl 8 rfl) ?_
  refine lv_iload hx hb dX2_turn_165 (lv_at hl 2 rfl) ?_
  refine wI hx hb hK hW 1 rfl (k := id) (by omega) (by omega) dX2_turn_167 (fun H locs hW => ?_)
  have hW : Wd D A s [(m0, .inr (2, [.ref mc, .ref mb, .long (ct), .int (ln), .int (fl), .ref mv, .ref aw, .ref an])), (mv, .inl (cy 0, 16, .inl (upd (upd (upd (upd v ia va2) ib vb4) ic vc2) id vd4)))] H locs := hW
  exact eV hQ hx hb hr hlocks hK hW () (trivial) (by subst_vars; rfl) dX2_turn_168

theorem f_X2_reorder_0 : Cond.fieldLink RX2 21 "TreeHashes$Mix" "w" "[I" ∈ wsX2_reorder := by decide +kernel
theorem i_X2_reorder_X2 : ∀ w ∈ wsX20, w ∈ wsX2_reorder := by decide +kernel
theorem f_X2_reorder_2 : Cond.fieldLink RX2 24 "TreeHashes$Mix" "nextW" "[I" ∈ wsX2_reorder := by decide +kernel
theorem f_X2_reorder_3 : Cond.fieldLink RX2 79 "TreeHashes$Mix" "ORDER" "[I" ∈ wsX2_reorder := by decide +kernel
set_option maxHeartbeats 4000000 in
set_option maxRecDepth 100000 in
theorem c_X2_reorder (l : Launch) (D : va_G) (cy : Nat → ClassId) (t : Nat × Nat) (m0 : Nat) (mc : Nat) (mb : Nat) (mv : Nat) (aw : Nat) (an : Nat) (ct : Int64) (ln : Int32) (fl : Int32) (w : Nat → Int32) (nw : Nat → Int32)  (sz : Nat) : Met l yX2_reorder wsX2_reorder ({ frames := 0, cells := 0, slots := 0, locals := 0 }) (PcW D cy t [(m0, .inr (2, [.ref mc, .ref mb, .long (ct), .int (ln), .int (fl), .ref mv, .ref aw, .ref an])), (aw, .inl (cy 0, 16, .inl (w))), (an, .inl (cy 0, 16, .inl (nw)))] [.ref m0] sz) (QvA D cy (fun u : Unit => True) (fun u : Unit => [(m0, .inr (2, [.ref mc, .ref mb, .long (ct), .int (ln), .int (fl), .ref mv, .ref an, .ref aw])), (an, .inl (cy 0, 16, .inl (fun k => w (orN k)))), (aw, .inl (cy 0, 16, .inl (w)))]) (va_A [(m0, .inr (2, [.ref mc, .ref mb, .long (ct), .int (ln), .int (fl), .ref mv, .ref aw, .ref an])), (aw, .inl (cy 0, 16, .inl (w))), (an, .inl (cy 0, 16, .inl (nw)))] sz)) 0 0 (va_A [(m0, .inr (2, [.ref mc, .ref mb, .long (ct), .int (ln), .int (fl), .ref mv, .ref aw, .ref an])), (aw, .inl (cy 0, 16, .inl (w))), (an, .inl (cy 0, 16, .inl (nw)))] sz) := by
  refine M_ofW (cc := cX2_reorder) (maxL := 2) (ret := none) (by decide) rfl (Nat.le_of_ble_eq_true rfl) ?_
  intro p e s m below meth c A ls args Q hQ S0 hr hlocks hnm hK hst hA hW hl
  have hx := S0.1; have hb := S0.2.1; have hml := S0.2.2.1; have hown := S0.2.2.2.1; have hts := S0.2.2.2.2
  have hl : lv_has ls 2 [(0, .ref m0)] := hl
  refine lv_iconst (v := nI (0)) hx hb dX2_reorder_0 (by decide) ?_
  refine lv_istore_n (lv' := [(1, .int (nI (0))), (0, .ref m0)]) hx hb dX2_reorder_1 rfl hl (by decide) rfl (fun ls hl => ?_)
  have loop2 : ∀ (nF : Nat) (i : Nat), 16 - i < nF → (i ≤ 16) → ∀ (H : Heap) (locs : List Loc), Wd D A s [(m0, .inr (2, [.ref mc, .ref mb, .long (ct), .int (ln), .int (fl), .ref mv, .ref aw, .ref an])), (aw, .inl (cy 0, 16, .inl (w))), (an, .inl (cy 0, 16, .inl (apG nw 0 (fun k => w (orN k)) i)))] H locs → ∀ ls : Array Slot, lv_has ls 2 [(0, .ref m0), (1, .int (nI (i)))] → W p l e ({ frames := 0, cells := 0, slots := 0, locals := 0 }) s m args below meth c H locs 0 0 Q (F0 m 2 ls []) := by
    intro nF
    induction nF with
    | zero => intro i hf; exact absurd hf (Nat.not_lt_zero _)
    | succ nF ih =>
      intro i hf hi H locs hW ls hl
      refine lv_iload_n hx hb dX2_reorder_2 rfl (lv_at hl 1 rfl) ?_
      refine lv_bipush (v := nI (16)) hx hb dX2_reorder_3 (by decide) ?_
      refine iGe (a := i) (b := 16) (tgt := 30) hx hb dX2_reorder_5 (by decide) (by omega) (by omega) (fun h5 => ?_) (fun h5 => ?_)
      · skip
        refine lv_aload_n hx hb dX2_reorder_30 rfl (lv_at hl 0 rfl) ?_
        refine va_get (D := D) (ci := 2) (v := .ref aw) (C := RX2) (T := TX2) (N := 8) hx hb hts i_X2_reorder_X2 hown hK hW.1 0 rfl rfl 6 (by decide) (hts (.fieldLink RX2 21 "TreeHashes$Mix" "w" "[I") f_X2_reorder_0) (fun _ h9 => h9) rfl dX2_reorder_31 ?_
        refine lv_astore_n (lv' := [(1, .ref aw), (0, .ref m0)]) hx hb dX2_reorder_34 rfl hl (by decide) rfl (fun ls hl => ?_)
        refine lv_aload_n hx hb dX2_reorder_35 rfl (lv_at hl 1 rfl) ?_
        refine lv_aload_n hx hb dX2_reorder_36 rfl (lv_at hl 1 rfl) ?_
        refine va_get (D := D) (ci := 2) (v := .ref an) (C := RX2) (T := TX2) (N := 8) hx hb hts i_X2_reorder_X2 hown hK hW.1 0 rfl rfl 7 (by decide) (hts (.fieldLink RX2 24 "TreeHashes$Mix" "nextW" "[I") f_X2_reorder_2) (fun _ h9 => h9) rfl dX2_reorder_37 ?_
        refine va_put (D := D) (ci := 2) (v := .ref an) (ty := .array .int) (C := RX2) (T := TX2) (N := 8) hx hb hts i_X2_reorder_X2 tyX2 tyX2_ok nmX2 hown hK hW.1 hW.2.1 hW.2.2 0 rfl rfl 6 (by decide) (hts (.fieldLink RX2 21 "TreeHashes$Mix" "w" "[I") f_X2_reorder_0) (fun _ h9 => h9) rfl (by decide +kernel) rfl rfl (Nat.le_of_ble_eq_true rfl) dX2_reorder_40 (fun H locs hP hD hS => ?_)
        have hW : Wd D A s [(m0, .inr (2, [.ref mc, .ref mb, .long (ct), .int (ln), .int (fl), .ref mv, .ref an, .ref an])), (aw, .inl (cy 0, 16, .inl (w))), (an, .inl (cy 0, 16, .inl (apG nw 0 (fun k => w (orN k)) i)))] H locs := ⟨hP, hD, hS⟩
        refine lv_aload_n hx hb dX2_reorder_43 rfl (lv_at hl 1 rfl) ?_
        refine lv_aload_n hx hb dX2_reorder_44 rfl (lv_at hl 0 rfl) ?_
        refine va_put (D := D) (ci := 2) (v := .ref aw) (ty := .array .int) (C := RX2) (T := TX2) (N := 8) hx hb hts i_X2_reorder_X2 tyX2 tyX2_ok nmX2 hown hK hW.1 hW.2.1 hW.2.2 0 rfl rfl 7 (by decide) (hts (.fieldLink RX2 24 "TreeHashes$Mix" "nextW" "[I") f_X2_reorder_2) (fun _ h9 => h9) rfl (by decide +kernel) rfl rfl (Nat.le_of_ble_eq_true rfl) dX2_reorder_45 (fun H locs hP hD hS => ?_)
        have hW : Wd D A s [(m0, .inr (2, [.ref mc, .ref mb, .long (ct), .int (ln), .int (fl), .ref mv, .ref an, .ref aw])), (aw, .inl (cy 0, 16, .inl (w))), (an, .inl (cy 0, 16, .inl (apG nw 0 (fun k => w (orN k)) i)))] H locs := ⟨hP, hD, hS⟩
        have e9 : i = 16 := by omega
        try rw [e9] at hW
        have hW := Wd.ext hW 2 rfl (fun k => w (orN k)) apG_all
        have hW := Wd.sub (ws' := [(m0, .inr (2, [.ref mc, .ref mb, .long (ct), .int (ln), .int (fl), .ref mv, .ref an, .ref aw])), (an, .inl (cy 0, 16, .inl (fun k => w (orN k)))), (aw, .inl (cy 0, 16, .inl (w)))]) hW [0, 2, 1] (by decide) rfl
        exact eV hQ hx hb hr hlocks hK hW () (trivial) (rfl) dX2_reorder_48
      · skip
        refine lv_aload_n hx hb dX2_reorder_8 rfl (lv_at hl 0 rfl) ?_
        refine va_get (D := D) (ci := 2) (v := .ref an) (C := RX2) (T := TX2) (N := 8) hx hb hts i_X2_reorder_X2 hown hK hW.1 0 rfl rfl 7 (by decide) (hts (.fieldLink RX2 24 "TreeHashes$Mix" "nextW" "[I") f_X2_reorder_2) (fun _ h9 => h9) rfl dX2_reorder_9 ?_
        refine lv_iload_n hx hb dX2_reorder_12 rfl (lv_at hl 1 rfl) ?_
        refine lv_aload_n hx hb dX2_reorder_13 rfl (lv_at hl 0 rfl) ?_
        refine va_get (D := D) (ci := 2) (v := .ref aw) (C := RX2) (T := TX2) (N := 8) hx hb hts i_X2_reorder_X2 hown hK hW.1 0 rfl rfl 6 (by decide) (hts (.fieldLink RX2 21 "TreeHashes$Mix" "w" "[I") f_X2_reorder_0) (fun _ h9 => h9) rfl dX2_reorder_14 ?_
        refine va_gets hx hb hst.2.1.1 hW.2.2 hown (hts (.fieldLink RX2 79 "TreeHashes$Mix" "ORDER" "[I") f_X2_reorder_3) (fun _ h9 => h9) dX2_reorder_17 ?_
        refine lv_iload_n hx hb dX2_reorder_20 rfl (lv_at hl 1 rfl) ?_
        refine rS (g := (fun k => nI (orN k))) hx hb hst.2.1.2 hW (k := i) (n := 16) (by omega) (by decide) dX2_reorder_21 ?_
        refine rI hx hb hK hW 1 rfl (k := orN i) (orN_lt _) (by omega) dX2_reorder_22 ?_
        refine wI hx hb hK hW 2 rfl (k := i) (by omega) (by omega) dX2_reorder_23 (fun H locs hW => ?_)
        have hW : Wd D A s [(m0, .inr (2, [.ref mc, .ref mb, .long (ct), .int (ln), .int (fl), .ref mv, .ref aw, .ref an])), (aw, .inl (cy 0, 16, .inl (w))), (an, .inl (cy 0, 16, .inl (upd (apG nw 0 (fun k => w (orN k)) i) i (w (orN i)))))] H locs := hW
        rw [show (upd (apG nw 0 (fun k => w (orN k)) i) i (w (orN i))) = (apG nw 0 (fun k => w (orN k)) (i + 1)) from by rw [← apG_s nw 0 (fun k => w (orN k)) i, Nat.zero_add]] at hW
        have hW : Wd D A s [(m0, .inr (2, [.ref mc, .ref mb, .long (ct), .int (ln), .int (fl), .ref mv, .ref aw, .ref an])), (aw, .inl (cy 0, 16, .inl (w))), (an, .inl (cy 0, 16, .inl (apG nw 0 (fun k => w (orN k)) (i + 1))))] H locs := hW
        refine lv_iinc (v := nI (i + 1)) (lv' := [(1, .int (nI (i + 1))), (0, .ref m0)]) hx hb dX2_reorder_24 hl (k := 1) rfl (nI_1 _) (by decide) rfl (fun ls hl => ?_)
        refine lv_goto (tgt := 2) hx hb dX2_reorder_27 (by decide) ?_
        exact ih (i + 1) (by omega) (by omega) _ _ hW _ (lv_sub hl [1, 0] rfl)
  rw [← apG_0 nw 0 (fun k => w (orN k))] at hW
  exact loop2 _ 0 (Nat.lt_succ_self _) (by omega) _ _ hW _ (lv_sub hl [1, 0] rfl)

theorem f_X2_fillIn_0 : Cond.fieldLink RX2 18 "TreeHashes$Mix" "v" "[I" ∈ wsX2_fillIn := by decide +kernel
theorem i_X2_fillIn_X2 : ∀ w ∈ wsX20, w ∈ wsX2_fillIn := by decide +kernel
theorem f_X2_fillIn_2 : Cond.fieldLink RX2 27 "TreeHashes$Mix" "count" "J" ∈ wsX2_fillIn := by decide +kernel
theorem f_X2_fillIn_3 : Cond.fieldLink RX2 31 "TreeHashes$Mix" "length" "I" ∈ wsX2_fillIn := by decide +kernel
theorem f_X2_fillIn_4 : Cond.fieldLink RX2 35 "TreeHashes$Mix" "flags" "I" ∈ wsX2_fillIn := by decide +kernel
theorem f_X2_fillIn_5 : Cond.fieldLink RX2 21 "TreeHashes$Mix" "w" "[I" ∈ wsX2_fillIn := by decide +kernel
theorem f_X2_fillIn_6 : Cond.fieldLink RX2 15 "TreeHashes$Mix" "block" "[I" ∈ wsX2_fillIn := by decide +kernel
theorem f_X2_fillIn_7 : Cond.fieldLink RX2 76 "TreeHashes$Mix" "START" "[I" ∈ wsX2_fillIn := by decide +kernel
theorem f_X2_fillIn_8 : Cond.fieldLink RX2 9 "TreeHashes$Mix" "chain" "[I" ∈ wsX2_fillIn := by decide +kernel
set_option maxHeartbeats 4000000 in
set_option maxRecDepth 100000 in
theorem c_X2_fillIn (l : Launch) (D : va_G) (cy : Nat → ClassId) (t : Nat × Nat) (m0 : Nat) (mc : Nat) (mb : Nat) (mv : Nat) (aw : Nat) (an : Nat) (ct : Int64) (ln : Int32) (fl : Int32) (ch : Nat → Int32) (bl : Nat → Int32) (v : Nat → Int32) (w : Nat → Int32)  (sz : Nat) : Met l yX2_fillIn wsX2_fillIn ({ frames := 0, cells := 0, slots := 0, locals := 0 }) (PcW D cy t [(m0, .inr (2, [.ref mc, .ref mb, .long (ct), .int (ln), .int (fl), .ref mv, .ref aw, .ref an])), (mc, .inl (cy 0, 8, .inl (ch))), (mb, .inl (cy 0, 16, .inl (bl))), (mv, .inl (cy 0, 16, .inl (v))), (aw, .inl (cy 0, 16, .inl (w)))] [.ref m0] sz) (QvA D cy (fun u : Unit => True) (fun u : Unit => [(m0, .inr (2, [.ref mc, .ref mb, .long (ct), .int (ln), .int (fl), .ref mv, .ref aw, .ref an])), (mc, .inl (cy 0, 8, .inl (ch))), (mb, .inl (cy 0, 16, .inl (bl))), (mv, .inl (cy 0, 16, .inl (vin ch ct ln fl))), (aw, .inl (cy 0, 16, .inl (bl)))]) (va_A [(m0, .inr (2, [.ref mc, .ref mb, .long (ct), .int (ln), .int (fl), .ref mv, .ref aw, .ref an])), (mc, .inl (cy 0, 8, .inl (ch))), (mb, .inl (cy 0, 16, .inl (bl))), (mv, .inl (cy 0, 16, .inl (v))), (aw, .inl (cy 0, 16, .inl (w)))] sz)) 0 0 (va_A [(m0, .inr (2, [.ref mc, .ref mb, .long (ct), .int (ln), .int (fl), .ref mv, .ref aw, .ref an])), (mc, .inl (cy 0, 8, .inl (ch))), (mb, .inl (cy 0, 16, .inl (bl))), (mv, .inl (cy 0, 16, .inl (v))), (aw, .inl (cy 0, 16, .inl (w)))] sz) := by
  refine M_ofW (cc := cX2_fillIn) (maxL := 2) (ret := none) (by decide) rfl (Nat.le_of_ble_eq_true rfl) ?_
  intro p e s m below meth c A ls args Q hQ S0 hr hlocks hnm hK hst hA hW hl
  have hx := S0.1; have hb := S0.2.1; have hml := S0.2.2.1; have hown := S0.2.2.2.1; have hts := S0.2.2.2.2
  have hl : lv_has ls 2 [(0, .ref m0)] := hl
  refine lv_iconst (v := nI (0)) hx hb dX2_fillIn_0 (by decide) ?_
  refine lv_istore_n (lv' := [(1, .int (nI (0))), (0, .ref m0)]) hx hb dX2_fillIn_1 rfl hl (by decide) rfl (fun ls hl => ?_)
  have loop2 : ∀ (nF : Nat) (i : Nat), 8 - i < nF → (i ≤ 8) → ∀ (H : Heap) (locs : List Loc), Wd D A s [(m0, .inr (2, [.ref mc, .ref mb, .long (ct), .int (ln), .int (fl), .ref mv, .ref aw, .ref an])), (mc, .inl (cy 0, 8, .inl (ch))), (mb, .inl (cy 0, 16, .inl (bl))), (mv, .inl (cy 0, 16, .inl (apG v 0 ch i))), (aw, .inl (cy 0, 16, .inl (w)))] H locs → ∀ ls : Array Slot, lv_has ls 2 [(0, .ref m0), (1, .int (nI (i)))] → W p l e ({ frames := 0, cells := 0, slots := 0, locals := 0 }) s m args below meth c H locs 0 0 Q (F0 m 2 ls []) := by
    intro nF
    induction nF with
    | zero => intro i hf; exact absurd hf (Nat.not_lt_zero _)
    | succ nF ih =>
      intro i hf hi H locs hW ls hl
      refine lv_iload_n hx hb dX2_fillIn_2 rfl (lv_at hl 1 rfl) ?_
      refine lv_bipush (v := nI (8)) hx hb dX2_fillIn_3 (by decide) ?_
      refine iGe (a := i) (b := 8) (tgt := 26) hx hb dX2_fillIn_5 (by decide) (by omega) (by omega) (fun h5 => ?_) (fun h5 => ?_)
      · skip
        refine lv_iconst (v := nI (0)) hx hb dX2_fillIn_26 (by decide) ?_
        refine lv_istore_n (lv' := [(1, .int (nI (0))), (0, .ref m0)]) hx hb dX2_fillIn_27 rfl hl (by decide) rfl (fun ls hl => ?_)
        have e9 : i = 8 := by omega
        try rw [e9] at hW
        have loop28 : ∀ (nF : Nat) (i2 : Nat), 4 - i2 < nF → (i2 ≤ 4) → ∀ (H : Heap) (locs : List Loc), Wd D A s [(m0, .inr (2, [.ref mc, .ref mb, .long (ct), .int (ln), .int (fl), .ref mv, .ref aw, .ref an])), (mc, .inl (cy 0, 8, .inl (ch))), (mb, .inl (cy 0, 16, .inl (bl))), (mv, .inl (cy 0, 16, .inl (apG (apG v 0 ch 8) 8 stA i2))), (aw, .inl (cy 0, 16, .inl (w)))] H locs → ∀ ls : Array Slot, lv_has ls 2 [(0, .ref m0), (1, .int (nI (i2)))] → W p l e ({ frames := 0, cells := 0, slots := 0, locals := 0 }) s m args below meth c H locs 0 0 Q (F0 m 28 ls []) := by
          intro nF
          induction nF with
          | zero => intro i2 hf; exact absurd hf (Nat.not_lt_zero _)
          | succ nF ih =>
            intro i2 hf hi2 H locs hW ls hl
            refine lv_iload_n hx hb dX2_fillIn_28 rfl (lv_at hl 1 rfl) ?_
            refine lv_iconst (v := nI (4)) hx hb dX2_fillIn_29 (by decide) ?_
            refine iGe (a := i2) (b := 4) (tgt := 53) hx hb dX2_fillIn_30 (by decide) (by omega) (by omega) (fun h30 => ?_) (fun h30 => ?_)
            · skip
              have e9 : i2 = 4 := by omega
              try rw [e9] at hW
              refine lv_aload_n hx hb dX2_fillIn_53 rfl (lv_at hl 0 rfl) ?_
              refine va_get (D := D) (ci := 2) (v := .ref mv) (C := RX2) (T := TX2) (N := 8) hx hb hts i_X2_fillIn_X2 hown hK hW.1 0 rfl rfl 5 (by decide) (hts (.fieldLink RX2 18 "TreeHashes$Mix" "v" "[I") f_X2_fillIn_0) (fun _ h9 => h9) rfl dX2_fillIn_54 ?_
              refine lv_bipush (v := nI (12)) hx hb dX2_fillIn_57 (by decide) ?_
              refine lv_aload_n hx hb dX2_fillIn_59 rfl (lv_at hl 0 rfl) ?_
              refine va_get (D := D) (ci := 2) (v := .long (ct)) (C := RX2) (T := TX2) (N := 8) hx hb hts i_X2_fillIn_X2 hown hK hW.1 0 rfl rfl 2 (by decide) (hts (.fieldLink RX2 27 "TreeHashes$Mix" "count" "J") f_X2_fillIn_2) (fun _ h9 => h9) rfl dX2_fillIn_60 ?_
              refine lv_l2i hx hb dX2_fillIn_63 rfl ?_
              refine wI hx hb hK hW 3 rfl (k := 12) (by omega) (by omega) dX2_fillIn_64 (fun H locs hW => ?_)
              have hW : Wd D A s [(m0, .inr (2, [.ref mc, .ref mb, .long (ct), .int (ln), .int (fl), .ref mv, .ref aw, .ref an])), (mc, .inl (cy 0, 8, .inl (ch))), (mb, .inl (cy 0, 16, .inl (bl))), (mv, .inl (cy 0, 16, .inl (upd (apG (apG v 0 ch 8) 8 stA 4) 12 ct.toInt32))), (aw, .inl (cy 0, 16, .inl (w)))] H locs := hW
              refine lv_aload_n hx hb dX2_fillIn_65 rfl (lv_at hl 0 rfl) ?_
              refine va_get (D := D) (ci := 2) (v := .ref mv) (C := RX2) (T := TX2) (N := 8) hx hb hts i_X2_fillIn_X2 hown hK hW.1 0 rfl rfl 5 (by decide) (hts (.fieldLink RX2 18 "TreeHashes$Mix" "v" "[I") f_X2_fillIn_0) (fun _ h9 => h9) rfl dX2_fillIn_66 ?_
              refine lv_bipush (v := nI (13)) hx hb dX2_fillIn_69 (by decide) ?_
              refine lv_aload_n hx hb dX2_fillIn_71 rfl (lv_at hl 0 rfl) ?_
              refine va_get (D := D) (ci := 2) (v := .long (ct)) (C := RX2) (T := TX2) (N := 8) hx hb hts i_X2_fillIn_X2 hown hK hW.1 0 rfl rfl 2 (by decide) (hts (.fieldLink RX2 27 "TreeHashes$Mix" "count" "J") f_X2_fillIn_2) (fun _ h9 => h9) rfl dX2_fillIn_72 ?_
              refine lv_bipush (v := nI (32)) hx hb dX2_fillIn_75 (by decide) ?_
              refine lv_lushr hx hb dX2_fillIn_77 rfl ?_
              refine lv_l2i hx hb dX2_fillIn_78 rfl ?_
              refine wI hx hb hK hW 3 rfl (k := 13) (by omega) (by omega) dX2_fillIn_79 (fun H locs hW => ?_)
              have hW : Wd D A s [(m0, .inr (2, [.ref mc, .ref mb, .long (ct), .int (ln), .int (fl), .ref mv, .ref aw, .ref an])), (mc, .inl (cy 0, 8, .inl (ch))), (mb, .inl (cy 0, 16, .inl (bl))), (mv, .inl (cy 0, 16, .inl (upd (upd (apG (apG v 0 ch 8) 8 stA 4) 12 ct.toInt32) 13 (((ct.toUInt64 >>> ((nI (32)).toInt64.toUInt64 &&& Int64.toUInt64 63)).toInt64).toInt32)))), (aw, .inl (cy 0, 16, .inl (w)))] H locs := hW
              refine lv_aload_n hx hb dX2_fillIn_80 rfl (lv_at hl 0 rfl) ?_
              refine va_get (D := D) (ci := 2) (v := .ref mv) (C := RX2) (T := TX2) (N := 8) hx hb hts i_X2_fillIn_X2 hown hK hW.1 0 rfl rfl 5 (by decide) (hts (.fieldLink RX2 18 "TreeHashes$Mix" "v" "[I") f_X2_fillIn_0) (fun _ h9 => h9) rfl dX2_fillIn_81 ?_
              refine lv_bipush (v := nI (14)) hx hb dX2_fillIn_84 (by decide) ?_
              refine lv_aload_n hx hb dX2_fillIn_86 rfl (lv_at hl 0 rfl) ?_
              refine va_get (D := D) (ci := 2) (v := .int (ln)) (C := RX2) (T := TX2) (N := 8) hx hb hts i_X2_fillIn_X2 hown hK hW.1 0 rfl rfl 3 (by decide) (hts (.fieldLink RX2 31 "TreeHashes$Mix" "length" "I") f_X2_fillIn_3) (fun _ h9 => h9) rfl dX2_fillIn_87 ?_
              refine wI hx hb hK hW 3 rfl (k := 14) (by omega) (by omega) dX2_fillIn_90 (fun H locs hW => ?_)
              have hW : Wd D A s [(m0, .inr (2, [.ref mc, .ref mb, .long (ct), .int (ln), .int (fl), .ref mv, .ref aw, .ref an])), (mc, .inl (cy 0, 8, .inl (ch))), (mb, .inl (cy 0, 16, .inl (bl))), (mv, .inl (cy 0, 16, .inl (upd (upd (upd (apG (apG v 0 ch 8) 8 stA 4) 12 ct.toInt32) 13 (((ct.toUInt64 >>> ((nI (32)).toInt64.toUInt64 &&& Int64.toUInt64 63)).toInt64).toInt32)) 14 ln))), (aw, .inl (cy 0, 16, .inl (w)))] H locs := hW
              refine lv_aload_n hx hb dX2_fillIn_91 rfl (lv_at hl 0 rfl) ?_
              refine va_get (D := D) (ci := 2) (v := .ref mv) (C := RX2) (T := TX2) (N := 8) hx hb hts i_X2_fillIn_X2 hown hK hW.1 0 rfl rfl 5 (by decide) (hts (.fieldLink RX2 18 "TreeHashes$Mix" "v" "[I") f_X2_fillIn_0) (fun _ h9 => h9) rfl dX2_fillIn_92 ?_
              refine lv_bipush (v := nI (15)) hx hb dX2_fillIn_95 (by decide) ?_
              refine lv_aload_n hx hb dX2_fillIn_97 rfl (lv_at hl 0 rfl) ?_
              refine va_get (D := D) (ci := 2) (v := .int (fl)) (C := RX2) (T := TX2) (N := 8) hx hb hts i_X2_fillIn_X2 hown hK hW.1 0 rfl rfl 4 (by decide) (hts (.fieldLink RX2 35 "TreeHashes$Mix" "flags" "I") f_X2_fillIn_4) (fun _ h9 => h9) rfl dX2_fillIn_98 ?_
              refine wI hx hb hK hW 3 rfl (k := 15) (by omega) (by omega) dX2_fillIn_101 (fun H locs hW => ?_)
              have hW : Wd D A s [(m0, .inr (2, [.ref mc, .ref mb, .long (ct), .int (ln), .int (fl), .ref mv, .ref aw, .ref an])), (mc, .inl (cy 0, 8, .inl (ch))), (mb, .inl (cy 0, 16, .inl (bl))), (mv, .inl (cy 0, 16, .inl (upd (upd (upd (upd (apG (apG v 0 ch 8) 8 stA 4) 12 ct.toInt32) 13 (((ct.toUInt64 >>> ((nI (32)).toInt64.toUInt64 &&& Int64.toUInt64 63)).toInt64).toInt32)) 14 ln) 15 fl))), (aw, .inl (cy 0, 16, .inl (w)))] H locs := hW
              have hW := Wd.ext hW 3 rfl (vin ch ct ln fl) (vin_ok rfl rfl)
              have hW : Wd D A s [(m0, .inr (2, [.ref mc, .ref mb, .long (ct), .int (ln), .int (fl), .ref mv, .ref aw, .ref an])), (mc, .inl (cy 0, 8, .inl (ch))), (mb, .inl (cy 0, 16, .inl (bl))), (mv, .inl (cy 0, 16, .inl (vin ch ct ln fl))), (aw, .inl (cy 0, 16, .inl (w)))] H locs := hW
              refine lv_iconst (v := nI (0)) hx hb dX2_fillIn_102 (by decide) ?_
              refine lv_istore_n (lv' := [(1, .int (nI (0))), (0, .ref m0)]) hx hb dX2_fillIn_103 rfl hl (by decide) rfl (fun ls hl => ?_)
              have loop104 : ∀ (nF : Nat) (i3 : Nat), 16 - i3 < nF → (i3 ≤ 16) → ∀ (H : Heap) (locs : List Loc), Wd D A s [(m0, .inr (2, [.ref mc, .ref mb, .long (ct), .int (ln), .int (fl), .ref mv, .ref aw, .ref an])), (mc, .inl (cy 0, 8, .inl (ch))), (mb, .inl (cy 0, 16, .inl (bl))), (mv, .inl (cy 0, 16, .inl (vin ch ct ln fl))), (aw, .inl (cy 0, 16, .inl (apG w 0 bl i3)))] H locs → ∀ ls : Array Slot, lv_has ls 2 [(0, .ref m0), (1, .int (nI (i3)))] → W p l e ({ frames := 0, cells := 0, slots := 0, locals := 0 }) s m args below meth c H locs 0 0 Q (F0 m 104 ls []) := by
                intro nF
                induction nF with
                | zero => intro i3 hf; exact absurd hf (Nat.not_lt_zero _)
                | succ nF ih =>
                  intro i3 hf hi3 H locs hW ls hl
                  refine lv_iload_n hx hb dX2_fillIn_104 rfl (lv_at hl 1 rfl) ?_
                  refine lv_bipush (v := nI (16)) hx hb dX2_fillIn_105 (by decide) ?_
                  refine iGe (a := i3) (b := 16) (tgt := 128) hx hb dX2_fillIn_107 (by decide) (by omega) (by omega) (fun h107 => ?_) (fun h107 => ?_)
                  · skip
                    have e9 : i3 = 16 := by omega
                    try rw [e9] at hW
                    have hW := Wd.ext hW 4 rfl bl apG_all
                    exact eV hQ hx hb hr hlocks hK hW () (trivial) (rfl) dX2_fillIn_128
                  · skip
                    refine lv_aload_n hx hb dX2_fillIn_110 rfl (lv_at hl 0 rfl) ?_
                    refine va_get (D := D) (ci := 2) (v := .ref aw) (C := RX2) (T := TX2) (N := 8) hx hb hts i_X2_fillIn_X2 hown hK hW.1 0 rfl rfl 6 (by decide) (hts (.fieldLink RX2 21 "TreeHashes$Mix" "w" "[I") f_X2_fillIn_5) (fun _ h9 => h9) rfl dX2_fillIn_111 ?_
                    refine lv_iload_n hx hb dX2_fillIn_114 rfl (lv_at hl 1 rfl) ?_
                    refine lv_aload_n hx hb dX2_fillIn_115 rfl (lv_at hl 0 rfl) ?_
                    refine va_get (D := D) (ci := 2) (v := .ref mb) (C := RX2) (T := TX2) (N := 8) hx hb hts i_X2_fillIn_X2 hown hK hW.1 0 rfl rfl 1 (by decide) (hts (.fieldLink RX2 15 "TreeHashes$Mix" "block" "[I") f_X2_fillIn_6) (fun _ h9 => h9) rfl dX2_fillIn_116 ?_
                    refine lv_iload_n hx hb dX2_fillIn_119 rfl (lv_at hl 1 rfl) ?_
                    refine rI hx hb hK hW 2 rfl (k := i3) (by omega) (by omega) dX2_fillIn_120 ?_
                    refine wI hx hb hK hW 4 rfl (k := i3) (by omega) (by omega) dX2_fillIn_121 (fun H locs hW => ?_)
                    have hW : Wd D A s [(m0, .inr (2, [.ref mc, .ref mb, .long (ct), .int (ln), .int (fl), .ref mv, .ref aw, .ref an])), (mc, .inl (cy 0, 8, .inl (ch))), (mb, .inl (cy 0, 16, .inl (bl))), (mv, .inl (cy 0, 16, .inl (vin ch ct ln fl))), (aw, .inl (cy 0, 16, .inl (upd (apG w 0 bl i3) i3 (bl i3))))] H locs := hW
                    rw [show (upd (apG w 0 bl i3) i3 (bl i3)) = (apG w 0 bl (i3 + 1)) from by rw [← apG_s w 0 bl i3, Nat.zero_add]] at hW
                    have hW : Wd D A s [(m0, .inr (2, [.ref mc, .ref mb, .long (ct), .int (ln), .int (fl), .ref mv, .ref aw, .ref an])), (mc, .inl (cy 0, 8, .inl (ch))), (mb, .inl (cy 0, 16, .inl (bl))), (mv, .inl (cy 0, 16, .inl (vin ch ct ln fl))), (aw, .inl (cy 0, 16, .inl (apG w 0 bl (i3 + 1))))] H locs := hW
                    refine lv_iinc (v := nI (i3 + 1)) (lv' := [(1, .int (nI (i3 + 1))), (0, .ref m0)]) hx hb dX2_fillIn_122 hl (k := 1) rfl (nI_1 _) (by decide) rfl (fun ls hl => ?_)
                    refine lv_goto (tgt := 104) hx hb dX2_fillIn_125 (by decide) ?_
                    exact ih (i3 + 1) (by omega) (by omega) _ _ hW _ (lv_sub hl [1, 0] rfl)
              rw [← apG_0 w 0 bl] at hW
              exact loop104 _ 0 (Nat.lt_succ_self _) (by omega) _ _ hW _ (lv_sub hl [1, 0] rfl)
            · skip
              refine lv_aload_n hx hb dX2_fillIn_33 rfl (lv_at hl 0 rfl) ?_
              refine va_get (D := D) (ci := 2) (v := .ref mv) (C := RX2) (T := TX2) (N := 8) hx hb hts i_X2_fillIn_X2 hown hK hW.1 0 rfl rfl 5 (by decide) (hts (.fieldLink RX2 18 "TreeHashes$Mix" "v" "[I") f_X2_fillIn_0) (fun _ h9 => h9) rfl dX2_fillIn_34 ?_
              refine lv_bipush (v := nI (8)) hx hb dX2_fillIn_37 (by decide) ?_
              refine lv_iload_n hx hb dX2_fillIn_39 rfl (lv_at hl 1 rfl) ?_
              refine lv_iadd hx hb dX2_fillIn_40 ?_
              refine tI (nI_add _ _) ?_
              refine va_gets hx hb hst.1.1 hW.2.2 hown (hts (.fieldLink RX2 76 "TreeHashes$Mix" "START" "[I") f_X2_fillIn_7) (fun _ h9 => h9) dX2_fillIn_41 ?_
              refine lv_iload_n hx hb dX2_fillIn_44 rfl (lv_at hl 1 rfl) ?_
              refine rS (g := stA) hx hb hst.1.2 hW (k := i2) (n := 8) (by omega) (by decide) dX2_fillIn_45 ?_
              refine wI hx hb hK hW 3 rfl (k := 8 + i2) (by omega) (by omega) dX2_fillIn_46 (fun H locs hW => ?_)
              have hW : Wd D A s [(m0, .inr (2, [.ref mc, .ref mb, .long (ct), .int (ln), .int (fl), .ref mv, .ref aw, .ref an])), (mc, .inl (cy 0, 8, .inl (ch))), (mb, .inl (cy 0, 16, .inl (bl))), (mv, .inl (cy 0, 16, .inl (upd (apG (apG v 0 ch 8) 8 stA i2) (8 + i2) (stA i2)))), (aw, .inl (cy 0, 16, .inl (w)))] H locs := hW
              rw [show (upd (apG (apG v 0 ch 8) 8 stA i2) (8 + i2) (stA i2)) = (apG (apG v 0 ch 8) 8 stA (i2 + 1)) from apG_s (apG v 0 ch 8) 8 stA i2] at hW
              have hW : Wd D A s [(m0, .inr (2, [.ref mc, .ref mb, .long (ct), .int (ln), .int (fl), .ref mv, .ref aw, .ref an])), (mc, .inl (cy 0, 8, .inl (ch))), (mb, .inl (cy 0, 16, .inl (bl))), (mv, .inl (cy 0, 16, .inl (apG (apG v 0 ch 8) 8 stA (i2 + 1)))), (aw, .inl (cy 0, 16, .inl (w)))] H locs := hW
              refine lv_iinc (v := nI (i2 + 1)) (lv' := [(1, .int (nI (i2 + 1))), (0, .ref m0)]) hx hb dX2_fillIn_47 hl (k := 1) rfl (nI_1 _) (by decide) rfl (fun ls hl => ?_)
              refine lv_goto (tgt := 28) hx hb dX2_fillIn_50 (by decide) ?_
              exact ih (i2 + 1) (by omega) (by omega) _ _ hW _ (lv_sub hl [1, 0] rfl)
        rw [← apG_0 (apG v 0 ch 8) 8 stA] at hW
        exact loop28 _ 0 (Nat.lt_succ_self _) (by omega) _ _ hW _ (lv_sub hl [1, 0] rfl)
      · skip
        refine lv_aload_n hx hb dX2_fillIn_8 rfl (lv_at hl 0 rfl) ?_
        refine va_get (D := D) (ci := 2) (v := .ref mv) (C := RX2) (T := TX2) (N := 8) hx hb hts i_X2_fillIn_X2 hown hK hW.1 0 rfl rfl 5 (by decide) (hts (.fieldLink RX2 18 "TreeHashes$Mix" "v" "[I") f_X2_fillIn_0) (fun _ h9 => h9) rfl dX2_fillIn_9 ?_
        refine lv_iload_n hx hb dX2_fillIn_12 rfl (lv_at hl 1 rfl) ?_
        refine lv_aload_n hx hb dX2_fillIn_13 rfl (lv_at hl 0 rfl) ?_
        refine va_get (D := D) (ci := 2) (v := .ref mc) (C := RX2) (T := TX2) (N := 8) hx hb hts i_X2_fillIn_X2 hown hK hW.1 0 rfl rfl 0 (by decide) (hts (.fieldLink RX2 9 "TreeHashes$Mix" "chain" "[I") f_X2_fillIn_8) (fun _ h9 => h9) rfl dX2_fillIn_14 ?_
        refine lv_iload_n hx hb dX2_fillIn_17 rfl (lv_at hl 1 rfl) ?_
        refine rI hx hb hK hW 1 rfl (k := i) (by omega) (by omega) dX2_fillIn_18 ?_
        refine wI hx hb hK hW 3 rfl (k := i) (by omega) (by omega) dX2_fillIn_19 (fun H locs hW => ?_)
        have hW : Wd D A s [(m0, .inr (2, [.ref mc, .ref mb, .long (ct), .int (ln), .int (fl), .ref mv, .ref aw, .ref an])), (mc, .inl (cy 0, 8, .inl (ch))), (mb, .inl (cy 0, 16, .inl (bl))), (mv, .inl (cy 0, 16, .inl (upd (apG v 0 ch i) i (ch i)))), (aw, .inl (cy 0, 16, .inl (w)))] H locs := hW
        rw [show (upd (apG v 0 ch i) i (ch i)) = (apG v 0 ch (i + 1)) from by rw [← apG_s v 0 ch i, Nat.zero_add]] at hW
        have hW : Wd D A s [(m0, .inr (2, [.ref mc, .ref mb, .long (ct), .int (ln), .int (fl), .ref mv, .ref aw, .ref an])), (mc, .inl (cy 0, 8, .inl (ch))), (mb, .inl (cy 0, 16, .inl (bl))), (mv, .inl (cy 0, 16, .inl (apG v 0 ch (i + 1)))), (aw, .inl (cy 0, 16, .inl (w)))] H locs := hW
        refine lv_iinc (v := nI (i + 1)) (lv' := [(1, .int (nI (i + 1))), (0, .ref m0)]) hx hb dX2_fillIn_20 hl (k := 1) rfl (nI_1 _) (by decide) rfl (fun ls hl => ?_)
        refine lv_goto (tgt := 2) hx hb dX2_fillIn_23 (by decide) ?_
        exact ih (i + 1) (by omega) (by omega) _ _ hW _ (lv_sub hl [1, 0] rfl)
  rw [← apG_0 v 0 ch] at hW
  exact loop2 _ 0 (Nat.lt_succ_self _) (by omega) _ _ hW _ (lv_sub hl [1, 0] rfl)

theorem f_X2_run_0 : Cond.fieldLink RX2 18 "TreeHashes$Mix" "v" "[I" ∈ wsX2_run := by decide +kernel
theorem i_X2_run_X2 : ∀ w ∈ wsX20, w ∈ wsX2_run := by decide +kernel
theorem f_X2_run_2 : Cond.fieldLink RX2 9 "TreeHashes$Mix" "chain" "[I" ∈ wsX2_run := by decide +kernel
theorem f_X2_run_3 : Cond.fieldLink RX2 21 "TreeHashes$Mix" "w" "[I" ∈ wsX2_run := by decide +kernel
set_option maxHeartbeats 4000000 in
set_option maxRecDepth 100000 in
theorem c_X2_run (l : Launch) (D : va_G) (cy : Nat → ClassId) (t : Nat × Nat) (m0 : Nat) (mc : Nat) (mb : Nat) (mv : Nat) (aw : Nat) (an : Nat) (ct : Int64) (ln : Int32) (fl : Int32) (ch : Nat → Int32) (bl : Nat → Int32) (v : Nat → Int32) (w : Nat → Int32) (nw : Nat → Int32)  (sz : Nat) : Met l yX2_run wsX2_run ({ frames := 1, cells := 0, slots := 0, locals := 30 }) (PcW D cy t [(m0, .inr (2, [.ref mc, .ref mb, .long (ct), .int (ln), .int (fl), .ref mv, .ref aw, .ref an])), (mc, .inl (cy 0, 8, .inl (ch))), (mb, .inl (cy 0, 16, .inl (bl))), (mv, .inl (cy 0, 16, .inl (v))), (aw, .inl (cy 0, 16, .inl (w))), (an, .inl (cy 0, 16, .inl (nw)))] [.ref m0] sz) (QvA D cy (fun u : (Nat) × (Nat) × (Nat → Int32) × (Nat → Int32) => match u with | (aw2, an2, w2, nw2) => True) (fun u : (Nat) × (Nat) × (Nat → Int32) × (Nat → Int32) => match u with | (aw2, an2, w2, nw2) => [(m0, .inr (2, [.ref mc, .ref mb, .long (ct), .int (ln), .int (fl), .ref mv, .ref aw2, .ref an2])), (mc, .inl (cy 0, 8, .inl (ch))), (mb, .inl (cy 0, 16, .inl (bl))), (mv, .inl (cy 0, 16, .inl (mixV ch bl ct ln fl))), (aw2, .inl (cy 0, 16, .inl (w2))), (an2, .inl (cy 0, 16, .inl (nw2)))]) (va_A [(m0, .inr (2, [.ref mc, .ref mb, .long (ct), .int (ln), .int (fl), .ref mv, .ref aw, .ref an])), (mc, .inl (cy 0, 8, .inl (ch))), (mb, .inl (cy 0, 16, .inl (bl))), (mv, .inl (cy 0, 16, .inl (v))), (aw, .inl (cy 0, 16, .inl (w))), (an, .inl (cy 0, 16, .inl (nw)))] sz)) 0 0 (va_A [(m0, .inr (2, [.ref mc, .ref mb, .long (ct), .int (ln), .int (fl), .ref mv, .ref aw, .ref an])), (mc, .inl (cy 0, 8, .inl (ch))), (mb, .inl (cy 0, 16, .inl (bl))), (mv, .inl (cy 0, 16, .inl (v))), (aw, .inl (cy 0, 16, .inl (w))), (an, .inl (cy 0, 16, .inl (nw)))] sz) := by
  refine M_ofW (cc := cX2_run) (maxL := 2) (ret := none) (by decide) rfl (Nat.le_of_ble_eq_true rfl) ?_
  intro p e s m below meth c A ls args Q hQ S0 hr hlocks hnm hK hst hA hW hl
  have hx := S0.1; have hb := S0.2.1; have hml := S0.2.2.1; have hown := S0.2.2.2.1; have hts := S0.2.2.2.2
  have hl : lv_has ls 2 [(0, .ref m0)] := hl
  refine lv_aload_n hx hb dX2_run_0 rfl (lv_at hl 0 rfl) ?_
  refine kVv (As := []) (rest := []) S0 hK hst hA hW [0, 1, 2, 3, 4] (fun sz => c_X2_fillIn l D cy t m0 mc mb mv aw an ct ln fl ch bl v w  sz) rfl (by decide) (cwV 0 hts gX2_run_X2_fillIn rfl rfl rfl (by decide +kernel) ⟨Nat.le_of_ble_eq_true rfl, Nat.le_of_ble_eq_true rfl⟩) (fun _ => rfl) 0 2 rfl rfl rfl hl.1 rfl (Nat.le_of_ble_eq_true rfl) dX2_run_1 ⟨Nat.le_of_ble_eq_true rfl, Nat.le_of_ble_eq_true rfl⟩ (fun u1 H locs p1 hW => ?_)
  have hW : Wd D A s [(m0, .inr (2, [.ref mc, .ref mb, .long (ct), .int (ln), .int (fl), .ref mv, .ref aw, .ref an])), (mc, .inl (cy 0, 8, .inl (ch))), (mb, .inl (cy 0, 16, .inl (bl))), (mv, .inl (cy 0, 16, .inl (vin ch ct ln fl))), (aw, .inl (cy 0, 16, .inl (bl))), (an, .inl (cy 0, 16, .inl (nw)))] H locs := hW
  refine lv_iconst (v := nI (0)) hx hb dX2_run_4 (by decide) ?_
  refine lv_istore_n (lv' := [(1, .int (nI (0))), (0, .ref m0)]) hx hb dX2_run_5 rfl hl (by decide) rfl (fun ls hl => ?_)
  have loop6 : ∀ (nF : Nat) (i : Nat) (ax : Nat) (ay : Nat) (ny : Nat → Int32), 7 - i < nF → (i ≤ 7) → ∀ (H : Heap) (locs : List Loc), Wd D A s [(m0, .inr (2, [.ref mc, .ref mb, .long (ct), .int (ln), .int (fl), .ref mv, .ref ax, .ref ay])), (mc, .inl (cy 0, 8, .inl (ch))), (mb, .inl (cy 0, 16, .inl (bl))), (mv, .inl (cy 0, 16, .inl (vr (vin ch ct ln fl) bl i))), (ax, .inl (cy 0, 16, .inl (wr bl i))), (ay, .inl (cy 0, 16, .inl (ny)))] H locs → ∀ ls : Array Slot, lv_has ls 2 [(0, .ref m0), (1, .int (nI (i)))] → W p l e ({ frames := 1, cells := 0, slots := 0, locals := 30 }) s m args below meth c H locs 0 0 Q (F0 m 6 ls []) := by
    intro nF
    induction nF with
    | zero => intro i ax ay ny hf; exact absurd hf (Nat.not_lt_zero _)
    | succ nF ih =>
      intro i ax ay ny hf hi H locs hW ls hl
      refine lv_iload_n hx hb dX2_run_6 rfl (lv_at hl 1 rfl) ?_
      refine lv_bipush (v := nI (7)) hx hb dX2_run_7 (by decide) ?_
      refine iGe (a := i) (b := 7) (tgt := 212) hx hb dX2_run_9 (by decide) (by omega) (by omega) (fun h9 => ?_) (fun h9 => ?_)
      · skip
        refine lv_iconst (v := nI (0)) hx hb dX2_run_212 (by decide) ?_
        refine lv_istore_n (lv' := [(1, .int (nI (0))), (0, .ref m0)]) hx hb dX2_run_213 rfl hl (by decide) rfl (fun ls hl => ?_)
        have e9 : i = 7 := by omega
        try rw [e9] at hW
        have loop214 : ∀ (nF : Nat) (i2 : Nat), 8 - i2 < nF → (i2 ≤ 8) → ∀ (H : Heap) (locs : List Loc), Wd D A s [(m0, .inr (2, [.ref mc, .ref mb, .long (ct), .int (ln), .int (fl), .ref mv, .ref ax, .ref ay])), (mc, .inl (cy 0, 8, .inl (ch))), (mb, .inl (cy 0, 16, .inl (bl))), (mv, .inl (cy 0, 16, .inl (fin (vr (vin ch ct ln fl) bl 7) ch i2))), (ax, .inl (cy 0, 16, .inl (wr bl 7))), (ay, .inl (cy 0, 16, .inl (ny)))] H locs → ∀ ls : Array Slot, lv_has ls 2 [(0, .ref m0), (1, .int (nI (i2)))] → W p l e ({ frames := 1, cells := 0, slots := 0, locals := 30 }) s m args below meth c H locs 0 0 Q (F0 m 214 ls []) := by
          intro nF
          induction nF with
          | zero => intro i2 hf; exact absurd hf (Nat.not_lt_zero _)
          | succ nF ih =>
            intro i2 hf hi2 H locs hW ls hl
            refine lv_iload_n hx hb dX2_run_214 rfl (lv_at hl 1 rfl) ?_
            refine lv_bipush (v := nI (8)) hx hb dX2_run_215 (by decide) ?_
            refine iGe (a := i2) (b := 8) (tgt := 262) hx hb dX2_run_217 (by decide) (by omega) (by omega) (fun h217 => ?_) (fun h217 => ?_)
            · skip
              have e9 : i2 = 8 := by omega
              try rw [e9] at hW
              exact eV hQ hx hb hr hlocks hK hW (ax, ay, wr bl 7, ny) (trivial) (rfl) dX2_run_262
            · skip
              refine lv_aload_n hx hb dX2_run_220 rfl (lv_at hl 0 rfl) ?_
              refine va_get (D := D) (ci := 2) (v := .ref mv) (C := RX2) (T := TX2) (N := 8) hx hb hts i_X2_run_X2 hown hK hW.1 0 rfl rfl 5 (by decide) (hts (.fieldLink RX2 18 "TreeHashes$Mix" "v" "[I") f_X2_run_0) (fun _ h9 => h9) rfl dX2_run_221 ?_
              refine lv_iload_n hx hb dX2_run_224 rfl (lv_at hl 1 rfl) ?_
              refine lv_dup2_11 hx hb dX2_run_225 rfl rfl ?_
              refine rI hx hb hK hW 3 rfl (k := i2) (by omega) (by omega) dX2_run_226 ?_
              refine lv_aload_n hx hb dX2_run_227 rfl (lv_at hl 0 rfl) ?_
              refine va_get (D := D) (ci := 2) (v := .ref mv) (C := RX2) (T := TX2) (N := 8) hx hb hts i_X2_run_X2 hown hK hW.1 0 rfl rfl 5 (by decide) (hts (.fieldLink RX2 18 "TreeHashes$Mix" "v" "[I") f_X2_run_0) (fun _ h9 => h9) rfl dX2_run_228 ?_
              refine lv_iload_n hx hb dX2_run_231 rfl (lv_at hl 1 rfl) ?_
              refine lv_bipush (v := nI (8)) hx hb dX2_run_232 (by decide) ?_
              refine lv_iadd hx hb dX2_run_234 ?_
              refine tI (nI_add _ _) ?_
              refine rI hx hb hK hW 3 rfl (k := i2 + 8) (by omega) (by omega) dX2_run_235 ?_
              refine lv_ixor hx hb dX2_run_236 ?_
              refine wI hx hb hK hW 3 rfl (k := i2) (by omega) (by omega) dX2_run_237 (fun H locs hW => ?_)
              have hW : Wd D A s [(m0, .inr (2, [.ref mc, .ref mb, .long (ct), .int (ln), .int (fl), .ref mv, .ref ax, .ref ay])), (mc, .inl (cy 0, 8, .inl (ch))), (mb, .inl (cy 0, 16, .inl (bl))), (mv, .inl (cy 0, 16, .inl (upd (fin (vr (vin ch ct ln fl) bl 7) ch i2) i2 (((fin (vr (vin ch ct ln fl) bl 7) ch i2) i2) ^^^ ((fin (vr (vin ch ct ln fl) bl 7) ch i2) (i2 + 8)))))), (ax, .inl (cy 0, 16, .inl (wr bl 7))), (ay, .inl (cy 0, 16, .inl (ny)))] H locs := hW
              refine lv_aload_n hx hb dX2_run_238 rfl (lv_at hl 0 rfl) ?_
              refine va_get (D := D) (ci := 2) (v := .ref mv) (C := RX2) (T := TX2) (N := 8) hx hb hts i_X2_run_X2 hown hK hW.1 0 rfl rfl 5 (by decide) (hts (.fieldLink RX2 18 "TreeHashes$Mix" "v" "[I") f_X2_run_0) (fun _ h9 => h9) rfl dX2_run_239 ?_
              refine lv_iload_n hx hb dX2_run_242 rfl (lv_at hl 1 rfl) ?_
              refine lv_bipush (v := nI (8)) hx hb dX2_run_243 (by decide) ?_
              refine lv_iadd hx hb dX2_run_245 ?_
              refine tI (nI_add _ _) ?_
              refine lv_dup2_11 hx hb dX2_run_246 rfl rfl ?_
              refine rI hx hb hK hW 3 rfl (k := i2 + 8) (by omega) (by omega) dX2_run_247 ?_
              refine lv_aload_n hx hb dX2_run_248 rfl (lv_at hl 0 rfl) ?_
              refine va_get (D := D) (ci := 2) (v := .ref mc) (C := RX2) (T := TX2) (N := 8) hx hb hts i_X2_run_X2 hown hK hW.1 0 rfl rfl 0 (by decide) (hts (.fieldLink RX2 9 "TreeHashes$Mix" "chain" "[I") f_X2_run_2) (fun _ h9 => h9) rfl dX2_run_249 ?_
              refine lv_iload_n hx hb dX2_run_252 rfl (lv_at hl 1 rfl) ?_
              refine rI hx hb hK hW 1 rfl (k := i2) (by omega) (by omega) dX2_run_253 ?_
              refine lv_ixor hx hb dX2_run_254 ?_
              refine wI hx hb hK hW 3 rfl (k := i2 + 8) (by omega) (by omega) dX2_run_255 (fun H locs hW => ?_)
              have hW : Wd D A s [(m0, .inr (2, [.ref mc, .ref mb, .long (ct), .int (ln), .int (fl), .ref mv, .ref ax, .ref ay])), (mc, .inl (cy 0, 8, .inl (ch))), (mb, .inl (cy 0, 16, .inl (bl))), (mv, .inl (cy 0, 16, .inl (upd (upd (fin (vr (vin ch ct ln fl) bl 7) ch i2) i2 (((fin (vr (vin ch ct ln fl) bl 7) ch i2) i2) ^^^ ((fin (vr (vin ch ct ln fl) bl 7) ch i2) (i2 + 8)))) (i2 + 8) (((upd (fin (vr (vin ch ct ln fl) bl 7) ch i2) i2 (((fin (vr (vin ch ct ln fl) bl 7) ch i2) i2) ^^^ ((fin (vr (vin ch ct ln fl) bl 7) ch i2) (i2 + 8)))) (i2 + 8)) ^^^ (ch i2))))), (ax, .inl (cy 0, 16, .inl (wr bl 7))), (ay, .inl (cy 0, 16, .inl (ny)))] H locs := hW
              rw [show (upd (upd (fin (vr (vin ch ct ln fl) bl 7) ch i2) i2 (((fin (vr (vin ch ct ln fl) bl 7) ch i2) i2) ^^^ ((fin (vr (vin ch ct ln fl) bl 7) ch i2) (i2 + 8)))) (i2 + 8) (((upd (fin (vr (vin ch ct ln fl) bl 7) ch i2) i2 (((fin (vr (vin ch ct ln fl) bl 7) ch i2) i2) ^^^ ((fin (vr (vin ch ct ln fl) bl 7) ch i2) (i2 + 8)))) (i2 + 8)) ^^^ (ch i2))) = (fin (vr (vin ch ct ln fl) bl 7) ch (i2 + 1)) from fin_s _ _ (by omega)] at hW
              have hW : Wd D A s [(m0, .inr (2, [.ref mc, .ref mb, .long (ct), .int (ln), .int (fl), .ref mv, .ref ax, .ref ay])), (mc, .inl (cy 0, 8, .inl (ch))), (mb, .inl (cy 0, 16, .inl (bl))), (mv, .inl (cy 0, 16, .inl (fin (vr (vin ch ct ln fl) bl 7) ch (i2 + 1)))), (ax, .inl (cy 0, 16, .inl (wr bl 7))), (ay, .inl (cy 0, 16, .inl (ny)))] H locs := hW
              refine lv_iinc (v := nI (i2 + 1)) (lv' := [(1, .int (nI (i2 + 1))), (0, .ref m0)]) hx hb dX2_run_256 hl (k := 1) rfl (nI_1 _) (by decide) rfl (fun ls hl => ?_)
              refine lv_goto (tgt := 214) hx hb dX2_run_259 (by decide) ?_
              exact ih (i2 + 1) (by omega) (by omega) _ _ hW _ (lv_sub hl [1, 0] rfl)
        rw [← fin_0 (vr (vin ch ct ln fl) bl 7) ch] at hW
        exact loop214 _ 0 (Nat.lt_succ_self _) (by omega) _ _ hW _ (lv_sub hl [1, 0] rfl)
      · skip
        refine lv_aload_n hx hb dX2_run_12 rfl (lv_at hl 0 rfl) ?_
        refine lv_iconst (v := nI (0)) hx hb dX2_run_13 (by decide) ?_
        refine lv_iconst (v := nI (4)) hx hb dX2_run_14 (by decide) ?_
        refine lv_bipush (v := nI (8)) hx hb dX2_run_15 (by decide) ?_
        refine lv_bipush (v := nI (12)) hx hb dX2_run_17 (by decide) ?_
        refine lv_aload_n hx hb dX2_run_19 rfl (lv_at hl 0 rfl) ?_
        refine va_get (D := D) (ci := 2) (v := .ref ax) (C := RX2) (T := TX2) (N := 8) hx hb hts i_X2_run_X2 hown hK hW.1 0 rfl rfl 6 (by decide) (hts (.fieldLink RX2 21 "TreeHashes$Mix" "w" "[I") f_X2_run_3) (fun _ h9 => h9) rfl dX2_run_20 ?_
        refine lv_iconst (v := nI (0)) hx hb dX2_run_23 (by decide) ?_
        refine rI hx hb hK hW 4 rfl (k := 0) (by omega) (by omega) dX2_run_24 ?_
        refine lv_aload_n hx hb dX2_run_25 rfl (lv_at hl 0 rfl) ?_
        refine va_get (D := D) (ci := 2) (v := .ref ax) (C := RX2) (T := TX2) (N := 8) hx hb hts i_X2_run_X2 hown hK hW.1 0 rfl rfl 6 (by decide) (hts (.fieldLink RX2 21 "TreeHashes$Mix" "w" "[I") f_X2_run_3) (fun _ h9 => h9) rfl dX2_run_26 ?_
        refine lv_iconst (v := nI (1)) hx hb dX2_run_29 (by decide) ?_
        refine rI hx hb hK hW 4 rfl (k := 1) (by omega) (by omega) dX2_run_30 ?_
        refine kVv (As := [.int (nI (0)), .int (nI (4)), .int (nI (8)), .int (nI (12)), .int ((wr bl i) 0), .int ((wr bl i) 1)]) (rest := []) S0 hK hst hA hW [0, 3] (fun sz => c_X2_turn l D cy t m0 mc mb mv ax ay ct ln fl (vr (vin ch ct ln fl) bl i) 0 4 8 12 ((wr bl i) 0) ((wr bl i) 1) (by omega) (by omega) (by omega) (by omega) sz) rfl (by decide) (cwV 6 hts gX2_run_X2_turn rfl rfl rfl (by decide +kernel) ⟨Nat.le_of_ble_eq_true rfl, Nat.le_of_ble_eq_true rfl⟩) (fun _ => rfl) 0 2 rfl rfl rfl hl.1 rfl (Nat.le_of_ble_eq_true rfl) dX2_run_31 ⟨Nat.le_of_ble_eq_true rfl, Nat.le_of_ble_eq_true rfl⟩ (fun u31 H locs p31 hW => ?_)
        have hW : Wd D A s [(m0, .inr (2, [.ref mc, .ref mb, .long (ct), .int (ln), .int (fl), .ref mv, .ref ax, .ref ay])), (mc, .inl (cy 0, 8, .inl (ch))), (mb, .inl (cy 0, 16, .inl (bl))), (mv, .inl (cy 0, 16, .inl (tn (vr (vin ch ct ln fl) bl i) 0 4 8 12 ((wr bl i) 0) ((wr bl i) 1)))), (ax, .inl (cy 0, 16, .inl (wr bl i))), (ay, .inl (cy 0, 16, .inl (ny)))] H locs := hW
        refine lv_aload_n hx hb dX2_run_34 rfl (lv_at hl 0 rfl) ?_
        refine lv_iconst (v := nI (1)) hx hb dX2_run_35 (by decide) ?_
        refine lv_iconst (v := nI (5)) hx hb dX2_run_36 (by decide) ?_
        refine lv_bipush (v := nI (9)) hx hb dX2_run_37 (by decide) ?_
        refine lv_bipush (v := nI (13)) hx hb dX2_run_39 (by decide) ?_
        refine lv_aload_n hx hb dX2_run_41 rfl (lv_at hl 0 rfl) ?_
        refine va_get (D := D) (ci := 2) (v := .ref ax) (C := RX2) (T := TX2) (N := 8) hx hb hts i_X2_run_X2 hown hK hW.1 0 rfl rfl 6 (by decide) (hts (.fieldLink RX2 21 "TreeHashes$Mix" "w" "[I") f_X2_run_3) (fun _ h9 => h9) rfl dX2_run_42 ?_
        refine lv_iconst (v := nI (2)) hx hb dX2_run_45 (by decide) ?_
        refine rI hx hb hK hW 4 rfl (k := 2) (by omega) (by omega) dX2_run_46 ?_
        refine lv_aload_n hx hb dX2_run_47 rfl (lv_at hl 0 rfl) ?_
        refine va_get (D := D) (ci := 2) (v := .ref ax) (C := RX2) (T := TX2) (N := 8) hx hb hts i_X2_run_X2 hown hK hW.1 0 rfl rfl 6 (by decide) (hts (.fieldLink RX2 21 "TreeHashes$Mix" "w" "[I") f_X2_run_3) (fun _ h9 => h9) rfl dX2_run_48 ?_
        refine lv_iconst (v := nI (3)) hx hb dX2_run_51 (by decide) ?_
        refine rI hx hb hK hW 4 rfl (k := 3) (by omega) (by omega) dX2_run_52 ?_
        refine kVv (As := [.int (nI (1)), .int (nI (5)), .int (nI (9)), .int (nI (13)), .int ((wr bl i) 2), .int ((wr bl i) 3)]) (rest := []) S0 hK hst hA hW [0, 3] (fun sz => c_X2_turn l D cy t m0 mc mb mv ax ay ct ln fl (tn (vr (vin ch ct ln fl) bl i) 0 4 8 12 ((wr bl i) 0) ((wr bl i) 1)) 1 5 9 13 ((wr bl i) 2) ((wr bl i) 3) (by omega) (by omega) (by omega) (by omega) sz) rfl (by decide) (cwV 6 hts gX2_run_X2_turn rfl rfl rfl (by decide +kernel) ⟨Nat.le_of_ble_eq_true rfl, Nat.le_of_ble_eq_true rfl⟩) (fun _ => rfl) 0 2 rfl rfl rfl hl.1 rfl (Nat.le_of_ble_eq_true rfl) dX2_run_53 ⟨Nat.le_of_ble_eq_true rfl, Nat.le_of_ble_eq_true rfl⟩ (fun u53 H locs p53 hW => ?_)
        have hW : Wd D A s [(m0, .inr (2, [.ref mc, .ref mb, .long (ct), .int (ln), .int (fl), .ref mv, .ref ax, .ref ay])), (mc, .inl (cy 0, 8, .inl (ch))), (mb, .inl (cy 0, 16, .inl (bl))), (mv, .inl (cy 0, 16, .inl (tn (tn (vr (vin ch ct ln fl) bl i) 0 4 8 12 ((wr bl i) 0) ((wr bl i) 1)) 1 5 9 13 ((wr bl i) 2) ((wr bl i) 3)))), (ax, .inl (cy 0, 16, .inl (wr bl i))), (ay, .inl (cy 0, 16, .inl (ny)))] H locs := hW
        refine lv_aload_n hx hb dX2_run_56 rfl (lv_at hl 0 rfl) ?_
        refine lv_iconst (v := nI (2)) hx hb dX2_run_57 (by decide) ?_
        refine lv_bipush (v := nI (6)) hx hb dX2_run_58 (by decide) ?_
        refine lv_bipush (v := nI (10)) hx hb dX2_run_60 (by decide) ?_
        refine lv_bipush (v := nI (14)) hx hb dX2_run_62 (by decide) ?_
        refine lv_aload_n hx hb dX2_run_64 rfl (lv_at hl 0 rfl) ?_
        refine va_get (D := D) (ci := 2) (v := .ref ax) (C := RX2) (T := TX2) (N := 8) hx hb hts i_X2_run_X2 hown hK hW.1 0 rfl rfl 6 (by decide) (hts (.fieldLink RX2 21 "TreeHashes$Mix" "w" "[I") f_X2_run_3) (fun _ h9 => h9) rfl dX2_run_65 ?_
        refine lv_iconst (v := nI (4)) hx hb dX2_run_68 (by decide) ?_
        refine rI hx hb hK hW 4 rfl (k := 4) (by omega) (by omega) dX2_run_69 ?_
        refine lv_aload_n hx hb dX2_run_70 rfl (lv_at hl 0 rfl) ?_
        refine va_get (D := D) (ci := 2) (v := .ref ax) (C := RX2) (T := TX2) (N := 8) hx hb hts i_X2_run_X2 hown hK hW.1 0 rfl rfl 6 (by decide) (hts (.fieldLink RX2 21 "TreeHashes$Mix" "w" "[I") f_X2_run_3) (fun _ h9 => h9) rfl dX2_run_71 ?_
        refine lv_iconst (v := nI (5)) hx hb dX2_run_74 (by decide) ?_
        refine rI hx hb hK hW 4 rfl (k := 5) (by omega) (by omega) dX2_run_75 ?_
        refine kVv (As := [.int (nI (2)), .int (nI (6)), .int (nI (10)), .int (nI (14)), .int ((wr bl i) 4), .int ((wr bl i) 5)]) (rest := []) S0 hK hst hA hW [0, 3] (fun sz => c_X2_turn l D cy t m0 mc mb mv ax ay ct ln fl (tn (tn (vr (vin ch ct ln fl) bl i) 0 4 8 12 ((wr bl i) 0) ((wr bl i) 1)) 1 5 9 13 ((wr bl i) 2) ((wr bl i) 3)) 2 6 10 14 ((wr bl i) 4) ((wr bl i) 5) (by omega) (by omega) (by omega) (by omega) sz) rfl (by decide) (cwV 6 hts gX2_run_X2_turn rfl rfl rfl (by decide +kernel) ⟨Nat.le_of_ble_eq_true rfl, Nat.le_of_ble_eq_true rfl⟩) (fun _ => rfl) 0 2 rfl rfl rfl hl.1 rfl (Nat.le_of_ble_eq_true rfl) dX2_run_76 ⟨Nat.le_of_ble_eq_true rfl, Nat.le_of_ble_eq_true rfl⟩ (fun u76 H locs p76 hW => ?_)
        have hW : Wd D A s [(m0, .inr (2, [.ref mc, .ref mb, .long (ct), .int (ln), .int (fl), .ref mv, .ref ax, .ref ay])), (mc, .inl (cy 0, 8, .inl (ch))), (mb, .inl (cy 0, 16, .inl (bl))), (mv, .inl (cy 0, 16, .inl (tn (tn (tn (vr (vin ch ct ln fl) bl i) 0 4 8 12 ((wr bl i) 0) ((wr bl i) 1)) 1 5 9 13 ((wr bl i) 2) ((wr bl i) 3)) 2 6 10 14 ((wr bl i) 4) ((wr bl i) 5)))), (ax, .inl (cy 0, 16, .inl (wr bl i))), (ay, .inl (cy 0, 16, .inl (ny)))] H locs := hW
        refine lv_aload_n hx hb dX2_run_79 rfl (lv_at hl 0 rfl) ?_
        refine lv_iconst (v := nI (3)) hx hb dX2_run_80 (by decide) ?_
        refine lv_bipush (v := nI (7)) hx hb dX2_run_81 (by decide) ?_
        refine lv_bipush (v := nI (11)) hx hb dX2_run_83 (by decide) ?_
        refine lv_bipush (v := nI (15)) hx hb dX2_run_85 (by decide) ?_
        refine lv_aload_n hx hb dX2_run_87 rfl (lv_at hl 0 rfl) ?_
        refine va_get (D := D) (ci := 2) (v := .ref ax) (C := RX2) (T := TX2) (N := 8) hx hb hts i_X2_run_X2 hown hK hW.1 0 rfl rfl 6 (by decide) (hts (.fieldLink RX2 21 "TreeHashes$Mix" "w" "[I") f_X2_run_3) (fun _ h9 => h9) rfl dX2_run_88 ?_
        refine lv_bipush (v := nI (6)) hx hb dX2_run_91 (by decide) ?_
        refine rI hx hb hK hW 4 rfl (k := 6) (by omega) (by omega) dX2_run_93 ?_
        refine lv_aload_n hx hb dX2_run_94 rfl (lv_at hl 0 rfl) ?_
        refine va_get (D := D) (ci := 2) (v := .ref ax) (C := RX2) (T := TX2) (N := 8) hx hb hts i_X2_run_X2 hown hK hW.1 0 rfl rfl 6 (by decide) (hts (.fieldLink RX2 21 "TreeHashes$Mix" "w" "[I") f_X2_run_3) (fun _ h9 => h9) rfl dX2_run_95 ?_
        refine lv_bipush (v := nI (7)) hx hb dX2_run_98 (by decide) ?_
        refine rI hx hb hK hW 4 rfl (k := 7) (by omega) (by omega) dX2_run_100 ?_
        refine kVv (As := [.int (nI (3)), .int (nI (7)), .int (nI (11)), .int (nI (15)), .int ((wr bl i) 6), .int ((wr bl i) 7)]) (rest := []) S0 hK hst hA hW [0, 3] (fun sz => c_X2_turn l D cy t m0 mc mb mv ax ay ct ln fl (tn (tn (tn (vr (vin ch ct ln fl) bl i) 0 4 8 12 ((wr bl i) 0) ((wr bl i) 1)) 1 5 9 13 ((wr bl i) 2) ((wr bl i) 3)) 2 6 10 14 ((wr bl i) 4) ((wr bl i) 5)) 3 7 11 15 ((wr bl i) 6) ((wr bl i) 7) (by omega) (by omega) (by omega) (by omega) sz) rfl (by decide) (cwV 6 hts gX2_run_X2_turn rfl rfl rfl (by decide +kernel) ⟨Nat.le_of_ble_eq_true rfl, Nat.le_of_ble_eq_true rfl⟩) (fun _ => rfl) 0 2 rfl rfl rfl hl.1 rfl (Nat.le_of_ble_eq_true rfl) dX2_run_101 ⟨Nat.le_of_ble_eq_true rfl, Nat.le_of_ble_eq_true rfl⟩ (fun u101 H locs p101 hW => ?_)
        have hW : Wd D A s [(m0, .inr (2, [.ref mc, .ref mb, .long (ct), .int (ln), .int (fl), .ref mv, .ref ax, .ref ay])), (mc, .inl (cy 0, 8, .inl (ch))), (mb, .inl (cy 0, 16, .inl (bl))), (mv, .inl (cy 0, 16, .inl (tn (tn (tn (tn (vr (vin ch ct ln fl) bl i) 0 4 8 12 ((wr bl i) 0) ((wr bl i) 1)) 1 5 9 13 ((wr bl i) 2) ((wr bl i) 3)) 2 6 10 14 ((wr bl i) 4) ((wr bl i) 5)) 3 7 11 15 ((wr bl i) 6) ((wr bl i) 7)))), (ax, .inl (cy 0, 16, .inl (wr bl i))), (ay, .inl (cy 0, 16, .inl (ny)))] H locs := hW
        refine lv_aload_n hx hb dX2_run_104 rfl (lv_at hl 0 rfl) ?_
        refine lv_iconst (v := nI (0)) hx hb dX2_run_105 (by decide) ?_
        refine lv_iconst (v := nI (5)) hx hb dX2_run_106 (by decide) ?_
        refine lv_bipush (v := nI (10)) hx hb dX2_run_107 (by decide) ?_
        refine lv_bipush (v := nI (15)) hx hb dX2_run_109 (by decide) ?_
        refine lv_aload_n hx hb dX2_run_111 rfl (lv_at hl 0 rfl) ?_
        refine va_get (D := D) (ci := 2) (v := .ref ax) (C := RX2) (T := TX2) (N := 8) hx hb hts i_X2_run_X2 hown hK hW.1 0 rfl rfl 6 (by decide) (hts (.fieldLink RX2 21 "TreeHashes$Mix" "w" "[I") f_X2_run_3) (fun _ h9 => h9) rfl dX2_run_112 ?_
        refine lv_bipush (v := nI (8)) hx hb dX2_run_115 (by decide) ?_
        refine rI hx hb hK hW 4 rfl (k := 8) (by omega) (by omega) dX2_run_117 ?_
        refine lv_aload_n hx hb dX2_run_118 rfl (lv_at hl 0 rfl) ?_
        refine va_get (D := D) (ci := 2) (v := .ref ax) (C := RX2) (T := TX2) (N := 8) hx hb hts i_X2_run_X2 hown hK hW.1 0 rfl rfl 6 (by decide) (hts (.fieldLink RX2 21 "TreeHashes$Mix" "w" "[I") f_X2_run_3) (fun _ h9 => h9) rfl dX2_run_119 ?_
        refine lv_bipush (v := nI (9)) hx hb dX2_run_122 (by decide) ?_
        refine rI hx hb hK hW 4 rfl (k := 9) (by omega) (by omega) dX2_run_124 ?_
        refine kVv (As := [.int (nI (0)), .int (nI (5)), .int (nI (10)), .int (nI (15)), .int ((wr bl i) 8), .int ((wr bl i) 9)]) (rest := []) S0 hK hst hA hW [0, 3] (fun sz => c_X2_turn l D cy t m0 mc mb mv ax ay ct ln fl (tn (tn (tn (tn (vr (vin ch ct ln fl) bl i) 0 4 8 12 ((wr bl i) 0) ((wr bl i) 1)) 1 5 9 13 ((wr bl i) 2) ((wr bl i) 3)) 2 6 10 14 ((wr bl i) 4) ((wr bl i) 5)) 3 7 11 15 ((wr bl i) 6) ((wr bl i) 7)) 0 5 10 15 ((wr bl i) 8) ((wr bl i) 9) (by omega) (by omega) (by omega) (by omega) sz) rfl (by decide) (cwV 6 hts gX2_run_X2_turn rfl rfl rfl (by decide +kernel) ⟨Nat.le_of_ble_eq_true rfl, Nat.le_of_ble_eq_true rfl⟩) (fun _ => rfl) 0 2 rfl rfl rfl hl.1 rfl (Nat.le_of_ble_eq_true rfl) dX2_run_125 ⟨Nat.le_of_ble_eq_true rfl, Nat.le_of_ble_eq_true rfl⟩ (fun u125 H locs p125 hW => ?_)
        have hW : Wd D A s [(m0, .inr (2, [.ref mc, .ref mb, .long (ct), .int (ln), .int (fl), .ref mv, .ref ax, .ref ay])), (mc, .inl (cy 0, 8, .inl (ch))), (mb, .inl (cy 0, 16, .inl (bl))), (mv, .inl (cy 0, 16, .inl (tn (tn (tn (tn (tn (vr (vin ch ct ln fl) bl i) 0 4 8 12 ((wr bl i) 0) ((wr bl i) 1)) 1 5 9 13 ((wr bl i) 2) ((wr bl i) 3)) 2 6 10 14 ((wr bl i) 4) ((wr bl i) 5)) 3 7 11 15 ((wr bl i) 6) ((wr bl i) 7)) 0 5 10 15 ((wr bl i) 8) ((wr bl i) 9)))), (ax, .inl (cy 0, 16, .inl (wr bl i))), (ay, .inl (cy 0, 16, .inl (ny)))] H locs := hW
        refine lv_aload_n hx hb dX2_run_128 rfl (lv_at hl 0 rfl) ?_
        refine lv_iconst (v := nI (1)) hx hb dX2_run_129 (by decide) ?_
        refine lv_bipush (v := nI (6)) hx hb dX2_run_130 (by decide) ?_
        refine lv_bipush (v := nI (11)) hx hb dX2_run_132 (by decide) ?_
        refine lv_bipush (v := nI (12)) hx hb dX2_run_134 (by decide) ?_
        refine lv_aload_n hx hb dX2_run_136 rfl (lv_at hl 0 rfl) ?_
        refine va_get (D := D) (ci := 2) (v := .ref ax) (C := RX2) (T := TX2) (N := 8) hx hb hts i_X2_run_X2 hown hK hW.1 0 rfl rfl 6 (by decide) (hts (.fieldLink RX2 21 "TreeHashes$Mix" "w" "[I") f_X2_run_3) (fun _ h9 => h9) rfl dX2_run_137 ?_
        refine lv_bipush (v := nI (10)) hx hb dX2_run_140 (by decide) ?_
        refine rI hx hb hK hW 4 rfl (k := 10) (by omega) (by omega) dX2_run_142 ?_
        refine lv_aload_n hx hb dX2_run_143 rfl (lv_at hl 0 rfl) ?_
        refine va_get (D := D) (ci := 2) (v := .ref ax) (C := RX2) (T := TX2) (N := 8) hx hb hts i_X2_run_X2 hown hK hW.1 0 rfl rfl 6 (by decide) (hts (.fieldLink RX2 21 "TreeHashes$Mix" "w" "[I") f_X2_run_3) (fun _ h9 => h9) rfl dX2_run_144 ?_
        refine lv_bipush (v := nI (11)) hx hb dX2_run_147 (by decide) ?_
        refine rI hx hb hK hW 4 rfl (k := 11) (by omega) (by omega) dX2_run_149 ?_
        refine kVv (As := [.int (nI (1)), .int (nI (6)), .int (nI (11)), .int (nI (12)), .int ((wr bl i) 10), .int ((wr bl i) 11)]) (rest := []) S0 hK hst hA hW [0, 3] (fun sz => c_X2_turn l D cy t m0 mc mb mv ax ay ct ln fl (tn (tn (tn (tn (tn (vr (vin ch ct ln fl) bl i) 0 4 8 12 ((wr bl i) 0) ((wr bl i) 1)) 1 5 9 13 ((wr bl i) 2) ((wr bl i) 3)) 2 6 10 14 ((wr bl i) 4) ((wr bl i) 5)) 3 7 11 15 ((wr bl i) 6) ((wr bl i) 7)) 0 5 10 15 ((wr bl i) 8) ((wr bl i) 9)) 1 6 11 12 ((wr bl i) 10) ((wr bl i) 11) (by omega) (by omega) (by omega) (by omega) sz) rfl (by decide) (cwV 6 hts gX2_run_X2_turn rfl rfl rfl (by decide +kernel) ⟨Nat.le_of_ble_eq_true rfl, Nat.le_of_ble_eq_true rfl⟩) (fun _ => rfl) 0 2 rfl rfl rfl hl.1 rfl (Nat.le_of_ble_eq_true rfl) dX2_run_150 ⟨Nat.le_of_ble_eq_true rfl, Nat.le_of_ble_eq_true rfl⟩ (fun u150 H locs p150 hW => ?_)
        have hW : Wd D A s [(m0, .inr (2, [.ref mc, .ref mb, .long (ct), .int (ln), .int (fl), .ref mv, .ref ax, .ref ay])), (mc, .inl (cy 0, 8, .inl (ch))), (mb, .inl (cy 0, 16, .inl (bl))), (mv, .inl (cy 0, 16, .inl (tn (tn (tn (tn (tn (tn (vr (vin ch ct ln fl) bl i) 0 4 8 12 ((wr bl i) 0) ((wr bl i) 1)) 1 5 9 13 ((wr bl i) 2) ((wr bl i) 3)) 2 6 10 14 ((wr bl i) 4) ((wr bl i) 5)) 3 7 11 15 ((wr bl i) 6) ((wr bl i) 7)) 0 5 10 15 ((wr bl i) 8) ((wr bl i) 9)) 1 6 11 12 ((wr bl i) 10) ((wr bl i) 11)))), (ax, .inl (cy 0, 16, .inl (wr bl i))), (ay, .inl (cy 0, 16, .inl (ny)))] H locs := hW
        refine lv_aload_n hx hb dX2_run_153 rfl (lv_at hl 0 rfl) ?_
        refine lv_iconst (v := nI (2)) hx hb dX2_run_154 (by decide) ?_
        refine lv_bipush (v := nI (7)) hx hb dX2_run_155 (by decide) ?_
        refine lv_bipush (v := nI (8)) hx hb dX2_run_157 (by decide) ?_
        refine lv_bipush (v := nI (13)) hx hb dX2_run_159 (by decide) ?_
        refine lv_aload_n hx hb dX2_run_161 rfl (lv_at hl 0 rfl) ?_
        refine va_get (D := D) (ci := 2) (v := .ref ax) (C := RX2) (T := TX2) (N := 8) hx hb hts i_X2_run_X2 hown hK hW.1 0 rfl rfl 6 (by decide) (hts (.fieldLink RX2 21 "TreeHashes$Mix" "w" "[I") f_X2_run_3) (fun _ h9 => h9) rfl dX2_run_162 ?_
        refine lv_bipush (v := nI (12)) hx hb dX2_run_165 (by decide) ?_
        refine rI hx hb hK hW 4 rfl (k := 12) (by omega) (by omega) dX2_run_167 ?_
        refine lv_aload_n hx hb dX2_run_168 rfl (lv_at hl 0 rfl) ?_
        refine va_get (D := D) (ci := 2) (v := .ref ax) (C := RX2) (T := TX2) (N := 8) hx hb hts i_X2_run_X2 hown hK hW.1 0 rfl rfl 6 (by decide) (hts (.fieldLink RX2 21 "TreeHashes$Mix" "w" "[I") f_X2_run_3) (fun _ h9 => h9) rfl dX2_run_169 ?_
        refine lv_bipush (v := nI (13)) hx hb dX2_run_172 (by decide) ?_
        refine rI hx hb hK hW 4 rfl (k := 13) (by omega) (by omega) dX2_run_174 ?_
        refine kVv (As := [.int (nI (2)), .int (nI (7)), .int (nI (8)), .int (nI (13)), .int ((wr bl i) 12), .int ((wr bl i) 13)]) (rest := []) S0 hK hst hA hW [0, 3] (fun sz => c_X2_turn l D cy t m0 mc mb mv ax ay ct ln fl (tn (tn (tn (tn (tn (tn (vr (vin ch ct ln fl) bl i) 0 4 8 12 ((wr bl i) 0) ((wr bl i) 1)) 1 5 9 13 ((wr bl i) 2) ((wr bl i) 3)) 2 6 10 14 ((wr bl i) 4) ((wr bl i) 5)) 3 7 11 15 ((wr bl i) 6) ((wr bl i) 7)) 0 5 10 15 ((wr bl i) 8) ((wr bl i) 9)) 1 6 11 12 ((wr bl i) 10) ((wr bl i) 11)) 2 7 8 13 ((wr bl i) 12) ((wr bl i) 13) (by omega) (by omega) (by omega) (by omega) sz) rfl (by decide) (cwV 6 hts gX2_run_X2_turn rfl rfl rfl (by decide +kernel) ⟨Nat.le_of_ble_eq_true rfl, Nat.le_of_ble_eq_true rfl⟩) (fun _ => rfl) 0 2 rfl rfl rfl hl.1 rfl (Nat.le_of_ble_eq_true rfl) dX2_run_175 ⟨Nat.le_of_ble_eq_true rfl, Nat.le_of_ble_eq_true rfl⟩ (fun u175 H locs p175 hW => ?_)
        have hW : Wd D A s [(m0, .inr (2, [.ref mc, .ref mb, .long (ct), .int (ln), .int (fl), .ref mv, .ref ax, .ref ay])), (mc, .inl (cy 0, 8, .inl (ch))), (mb, .inl (cy 0, 16, .inl (bl))), (mv, .inl (cy 0, 16, .inl (tn (tn (tn (tn (tn (tn (tn (vr (vin ch ct ln fl) bl i) 0 4 8 12 ((wr bl i) 0) ((wr bl i) 1)) 1 5 9 13 ((wr bl i) 2) ((wr bl i) 3)) 2 6 10 14 ((wr bl i) 4) ((wr bl i) 5)) 3 7 11 15 ((wr bl i) 6) ((wr bl i) 7)) 0 5 10 15 ((wr bl i) 8) ((wr bl i) 9)) 1 6 11 12 ((wr bl i) 10) ((wr bl i) 11)) 2 7 8 13 ((wr bl i) 12) ((wr bl i) 13)))), (ax, .inl (cy 0, 16, .inl (wr bl i))), (ay, .inl (cy 0, 16, .inl (ny)))] H locs := hW
        refine lv_aload_n hx hb dX2_run_178 rfl (lv_at hl 0 rfl) ?_
        refine lv_iconst (v := nI (3)) hx hb dX2_run_179 (by decide) ?_
        refine lv_iconst (v := nI (4)) hx hb dX2_run_180 (by decide) ?_
        refine lv_bipush (v := nI (9)) hx hb dX2_run_181 (by decide) ?_
        refine lv_bipush (v := nI (14)) hx hb dX2_run_183 (by decide) ?_
        refine lv_aload_n hx hb dX2_run_185 rfl (lv_at hl 0 rfl) ?_
        refine va_get (D := D) (ci := 2) (v := .ref ax) (C := RX2) (T := TX2) (N := 8) hx hb hts i_X2_run_X2 hown hK hW.1 0 rfl rfl 6 (by decide) (hts (.fieldLink RX2 21 "TreeHashes$Mix" "w" "[I") f_X2_run_3) (fun _ h9 => h9) rfl dX2_run_186 ?_
        refine lv_bipush (v := nI (14)) hx hb dX2_run_189 (by decide) ?_
        refine rI hx hb hK hW 4 rfl (k := 14) (by omega) (by omega) dX2_run_191 ?_
        refine lv_aload_n hx hb dX2_run_192 rfl (lv_at hl 0 rfl) ?_
        refine va_get (D := D) (ci := 2) (v := .ref ax) (C := RX2) (T := TX2) (N := 8) hx hb hts i_X2_run_X2 hown hK hW.1 0 rfl rfl 6 (by decide) (hts (.fieldLink RX2 21 "TreeHashes$Mix" "w" "[I") f_X2_run_3) (fun _ h9 => h9) rfl dX2_run_193 ?_
        refine lv_bipush (v := nI (15)) hx hb dX2_run_196 (by decide) ?_
        refine rI hx hb hK hW 4 rfl (k := 15) (by omega) (by omega) dX2_run_198 ?_
        refine kVv (As := [.int (nI (3)), .int (nI (4)), .int (nI (9)), .int (nI (14)), .int ((wr bl i) 14), .int ((wr bl i) 15)]) (rest := []) S0 hK hst hA hW [0, 3] (fun sz => c_X2_turn l D cy t m0 mc mb mv ax ay ct ln fl (tn (tn (tn (tn (tn (tn (tn (vr (vin ch ct ln fl) bl i) 0 4 8 12 ((wr bl i) 0) ((wr bl i) 1)) 1 5 9 13 ((wr bl i) 2) ((wr bl i) 3)) 2 6 10 14 ((wr bl i) 4) ((wr bl i) 5)) 3 7 11 15 ((wr bl i) 6) ((wr bl i) 7)) 0 5 10 15 ((wr bl i) 8) ((wr bl i) 9)) 1 6 11 12 ((wr bl i) 10) ((wr bl i) 11)) 2 7 8 13 ((wr bl i) 12) ((wr bl i) 13)) 3 4 9 14 ((wr bl i) 14) ((wr bl i) 15) (by omega) (by omega) (by omega) (by omega) sz) rfl (by decide) (cwV 6 hts gX2_run_X2_turn rfl rfl rfl (by decide +kernel) ⟨Nat.le_of_ble_eq_true rfl, Nat.le_of_ble_eq_true rfl⟩) (fun _ => rfl) 0 2 rfl rfl rfl hl.1 rfl (Nat.le_of_ble_eq_true rfl) dX2_run_199 ⟨Nat.le_of_ble_eq_true rfl, Nat.le_of_ble_eq_true rfl⟩ (fun u199 H locs p199 hW => ?_)
        have hW : Wd D A s [(m0, .inr (2, [.ref mc, .ref mb, .long (ct), .int (ln), .int (fl), .ref mv, .ref ax, .ref ay])), (mc, .inl (cy 0, 8, .inl (ch))), (mb, .inl (cy 0, 16, .inl (bl))), (mv, .inl (cy 0, 16, .inl (tn (tn (tn (tn (tn (tn (tn (tn (vr (vin ch ct ln fl) bl i) 0 4 8 12 ((wr bl i) 0) ((wr bl i) 1)) 1 5 9 13 ((wr bl i) 2) ((wr bl i) 3)) 2 6 10 14 ((wr bl i) 4) ((wr bl i) 5)) 3 7 11 15 ((wr bl i) 6) ((wr bl i) 7)) 0 5 10 15 ((wr bl i) 8) ((wr bl i) 9)) 1 6 11 12 ((wr bl i) 10) ((wr bl i) 11)) 2 7 8 13 ((wr bl i) 12) ((wr bl i) 13)) 3 4 9 14 ((wr bl i) 14) ((wr bl i) 15)))), (ax, .inl (cy 0, 16, .inl (wr bl i))), (ay, .inl (cy 0, 16, .inl (ny)))] H locs := hW
        rw [show (tn (tn (tn (tn (tn (tn (tn (tn (vr (vin ch ct ln fl) bl i) 0 4 8 12 ((wr bl i) 0) ((wr bl i) 1)) 1 5 9 13 ((wr bl i) 2) ((wr bl i) 3)) 2 6 10 14 ((wr bl i) 4) ((wr bl i) 5)) 3 7 11 15 ((wr bl i) 6) ((wr bl i) 7)) 0 5 10 15 ((wr bl i) 8) ((wr bl i) 9)) 1 6 11 12 ((wr bl i) 10) ((wr bl i) 11)) 2 7 8 13 ((wr bl i) 12) ((wr bl i) 13)) 3 4 9 14 ((wr bl i) 14) ((wr bl i) 15)) = (vr (vin ch ct ln fl) bl (i + 1)) from rfl] at hW
        have hW : Wd D A s [(m0, .inr (2, [.ref mc, .ref mb, .long (ct), .int (ln), .int (fl), .ref mv, .ref ax, .ref ay])), (mc, .inl (cy 0, 8, .inl (ch))), (mb, .inl (cy 0, 16, .inl (bl))), (mv, .inl (cy 0, 16, .inl (vr (vin ch ct ln fl) bl (i + 1)))), (ax, .inl (cy 0, 16, .inl (wr bl i))), (ay, .inl (cy 0, 16, .inl (ny)))] H locs := hW
        refine lv_aload_n hx hb dX2_run_202 rfl (lv_at hl 0 rfl) ?_
        refine kVv (As := []) (rest := []) S0 hK hst hA hW [0, 4, 5] (fun sz => c_X2_reorder l D cy t m0 mc mb mv ax ay ct ln fl (wr bl i) ny  sz) rfl (by decide) (cwV 0 hts gX2_run_X2_reorder rfl rfl rfl (by decide +kernel) ⟨Nat.le_of_ble_eq_true rfl, Nat.le_of_ble_eq_true rfl⟩) (fun _ => rfl) 0 2 rfl rfl rfl hl.1 rfl (Nat.le_of_ble_eq_true rfl) dX2_run_203 ⟨Nat.le_of_ble_eq_true rfl, Nat.le_of_ble_eq_true rfl⟩ (fun u203 H locs p203 hW => ?_)
        have hW : Wd D A s [(m0, .inr (2, [.ref mc, .ref mb, .long (ct), .int (ln), .int (fl), .ref mv, .ref ay, .ref ax])), (mc, .inl (cy 0, 8, .inl (ch))), (mb, .inl (cy 0, 16, .inl (bl))), (mv, .inl (cy 0, 16, .inl (vr (vin ch ct ln fl) bl (i + 1)))), (ay, .inl (cy 0, 16, .inl (fun k => (wr bl i) (orN k)))), (ax, .inl (cy 0, 16, .inl ((wr bl i))))] H locs := hW
        rw [show (fun k => (wr bl i) (orN k)) = (wr bl (i + 1)) from rfl] at hW
        have hW : Wd D A s [(m0, .inr (2, [.ref mc, .ref mb, .long (ct), .int (ln), .int (fl), .ref mv, .ref ay, .ref ax])), (mc, .inl (cy 0, 8, .inl (ch))), (mb, .inl (cy 0, 16, .inl (bl))), (mv, .inl (cy 0, 16, .inl (vr (vin ch ct ln fl) bl (i + 1)))), (ay, .inl (cy 0, 16, .inl (wr bl (i + 1)))), (ax, .inl (cy 0, 16, .inl ((wr bl i))))] H locs := hW
        refine lv_iinc (v := nI (i + 1)) (lv' := [(1, .int (nI (i + 1))), (0, .ref m0)]) hx hb dX2_run_206 hl (k := 1) rfl (nI_1 _) (by decide) rfl (fun ls hl => ?_)
        refine lv_goto (tgt := 6) hx hb dX2_run_209 (by decide) ?_
        exact ih (i + 1) ay ax (wr bl i) (by omega) (by omega) _ _ hW _ (lv_sub hl [1, 0] rfl)
  exact loop6 _ 0 aw an nw (Nat.lt_succ_self _) (by omega) _ _ hW _ (lv_sub hl [1, 0] rfl)

theorem f_X2_prepare_0 : Cond.fieldLink RX2 27 "TreeHashes$Mix" "count" "J" ∈ wsX2_prepare := by decide +kernel
theorem i_X2_prepare_X2 : ∀ w ∈ wsX20, w ∈ wsX2_prepare := by decide +kernel
theorem f_X2_prepare_2 : Cond.fieldLink RX2 31 "TreeHashes$Mix" "length" "I" ∈ wsX2_prepare := by decide +kernel
theorem f_X2_prepare_3 : Cond.fieldLink RX2 35 "TreeHashes$Mix" "flags" "I" ∈ wsX2_prepare := by decide +kernel
theorem f_X2_prepare_4 : Cond.fieldLink RX2 15 "TreeHashes$Mix" "block" "[I" ∈ wsX2_prepare := by decide +kernel
theorem f_X2_prepare_5 : Cond.fieldLink RX2 9 "TreeHashes$Mix" "chain" "[I" ∈ wsX2_prepare := by decide +kernel
set_option maxHeartbeats 4000000 in
set_option maxRecDepth 100000 in
theorem c_X2_prepare (l : Launch) (D : va_G) (cy : Nat → ClassId) (t : Nat × Nat) (m0 : Nat) (mc : Nat) (mb : Nat) (mv : Nat) (aw : Nat) (an : Nat) (ct : Int64) (ln : Int32) (fl : Int32) (ch : Nat → Int32) (bl : Nat → Int32) (kc : Nat) (kb : Nat) (kf : Nat → Int32) (kg : Nat → Int32) (ct2 : Int64) (ln2 : Int32) (fl2 : Int32)  (sz : Nat) : Met l yX2_prepare wsX2_prepare ({ frames := 0, cells := 0, slots := 0, locals := 0 }) (PcW D cy t [(m0, .inr (2, [.ref mc, .ref mb, .long (ct), .int (ln), .int (fl), .ref mv, .ref aw, .ref an])), (mc, .inl (cy 0, 8, .inl (ch))), (mb, .inl (cy 0, 16, .inl (bl))), (kc, .inl (cy 0, 8, .inl (kf))), (kb, .inl (cy 0, 16, .inl (kg)))] [.ref m0, .ref kc, .ref kb, .long (ct2), .int (ln2), .int (fl2)] sz) (QvA D cy (fun u : Unit => True) (fun u : Unit => [(m0, .inr (2, [.ref mc, .ref mb, .long (ct2), .int (ln2), .int (fl2), .ref mv, .ref aw, .ref an])), (mc, .inl (cy 0, 8, .inl (kf))), (mb, .inl (cy 0, 16, .inl (kg))), (kc, .inl (cy 0, 8, .inl (kf))), (kb, .inl (cy 0, 16, .inl (kg)))]) (va_A [(m0, .inr (2, [.ref mc, .ref mb, .long (ct), .int (ln), .int (fl), .ref mv, .ref aw, .ref an])), (mc, .inl (cy 0, 8, .inl (ch))), (mb, .inl (cy 0, 16, .inl (bl))), (kc, .inl (cy 0, 8, .inl (kf))), (kb, .inl (cy 0, 16, .inl (kg)))] sz)) 0 0 (va_A [(m0, .inr (2, [.ref mc, .ref mb, .long (ct), .int (ln), .int (fl), .ref mv, .ref aw, .ref an])), (mc, .inl (cy 0, 8, .inl (ch))), (mb, .inl (cy 0, 16, .inl (bl))), (kc, .inl (cy 0, 8, .inl (kf))), (kb, .inl (cy 0, 16, .inl (kg)))] sz) := by
  refine M_ofW (cc := cX2_prepare) (maxL := 8) (ret := none) (by decide) rfl (Nat.le_of_ble_eq_true rfl) ?_
  intro p e s m below meth c A ls args Q hQ S0 hr hlocks hnm hK hst hA hW hl
  have hx := S0.1; have hb := S0.2.1; have hml := S0.2.2.1; have hown := S0.2.2.2.1; have hts := S0.2.2.2.2
  have hl : lv_has ls 8 [(0, .ref m0), (1, .ref kc), (2, .ref kb), (3, .long (ct2)), (5, .int (ln2)), (6, .int (fl2))] := hl
  refine lv_iconst (v := nI (0)) hx hb dX2_prepare_0 (by decide) ?_
  refine lv_istore (lv' := [(7, .int (nI (0))), (0, .ref m0), (1, .ref kc), (2, .ref kb), (3, .long (ct2)), (5, .int (ln2)), (6, .int (fl2))]) hx hb dX2_prepare_1 hl (by decide) rfl (fun ls hl => ?_)
  have loop3 : ∀ (nF : Nat) (i : Nat), 8 - i < nF → (i ≤ 8) → ∀ (H : Heap) (locs : List Loc), Wd D A s [(m0, .inr (2, [.ref mc, .ref mb, .long (ct), .int (ln), .int (fl), .ref mv, .ref aw, .ref an])), (mc, .inl (cy 0, 8, .inl (apG ch 0 kf i))), (mb, .inl (cy 0, 16, .inl (bl))), (kc, .inl (cy 0, 8, .inl (kf))), (kb, .inl (cy 0, 16, .inl (kg)))] H locs → ∀ ls : Array Slot, lv_has ls 8 [(0, .ref m0), (1, .ref kc), (2, .ref kb), (3, .long (ct2)), (5, .int (ln2)), (6, .int (fl2)), (7, .int (nI (i)))] → W p l e ({ frames := 0, cells := 0, slots := 0, locals := 0 }) s m args below meth c H locs 0 0 Q (F0 m 3 ls []) := by
    intro nF
    induction nF with
    | zero => intro i hf; exact absurd hf (Nat.not_lt_zero _)
    | succ nF ih =>
      intro i hf hi H locs hW ls hl
      refine lv_iload hx hb dX2_prepare_3 (lv_at hl 6 rfl) ?_
      refine lv_bipush (v := nI (8)) hx hb dX2_prepare_5 (by decide) ?_
      refine iGe (a := i) (b := 8) (tgt := 27) hx hb dX2_prepare_7 (by decide) (by omega) (by omega) (fun h7 => ?_) (fun h7 => ?_)
      · skip
        refine lv_iconst (v := nI (0)) hx hb dX2_prepare_27 (by decide) ?_
        refine lv_istore (lv' := [(7, .int (nI (0))), (0, .ref m0), (1, .ref kc), (2, .ref kb), (3, .long (ct2)), (5, .int (ln2)), (6, .int (fl2))]) hx hb dX2_prepare_28 hl (by decide) rfl (fun ls hl => ?_)
        have e9 : i = 8 := by omega
        try rw [e9] at hW
        have loop30 : ∀ (nF : Nat) (i2 : Nat), 16 - i2 < nF → (i2 ≤ 16) → ∀ (H : Heap) (locs : List Loc), Wd D A s [(m0, .inr (2, [.ref mc, .ref mb, .long (ct), .int (ln), .int (fl), .ref mv, .ref aw, .ref an])), (mc, .inl (cy 0, 8, .inl (apG ch 0 kf 8))), (mb, .inl (cy 0, 16, .inl (apG bl 0 kg i2))), (kc, .inl (cy 0, 8, .inl (kf))), (kb, .inl (cy 0, 16, .inl (kg)))] H locs → ∀ ls : Array Slot, lv_has ls 8 [(0, .ref m0), (1, .ref kc), (2, .ref kb), (3, .long (ct2)), (5, .int (ln2)), (6, .int (fl2)), (7, .int (nI (i2)))] → W p l e ({ frames := 0, cells := 0, slots := 0, locals := 0 }) s m args below meth c H locs 0 0 Q (F0 m 30 ls []) := by
          intro nF
          induction nF with
          | zero => intro i2 hf; exact absurd hf (Nat.not_lt_zero _)
          | succ nF ih =>
            intro i2 hf hi2 H locs hW ls hl
            refine lv_iload hx hb dX2_prepare_30 (lv_at hl 6 rfl) ?_
            refine lv_bipush (v := nI (16)) hx hb dX2_prepare_32 (by decide) ?_
            refine iGe (a := i2) (b := 16) (tgt := 54) hx hb dX2_prepare_34 (by decide) (by omega) (by omega) (fun h34 => ?_) (fun h34 => ?_)
            · skip
              refine lv_aload_n hx hb dX2_prepare_54 rfl (lv_at hl 0 rfl) ?_
              refine lv_lload_n hx hb dX2_prepare_55 rfl (lv_at hl 3 rfl) ?_
              refine va_put (D := D) (ci := 2) (v := .long (ct2)) (ty := .long) (C := RX2) (T := TX2) (N := 8) hx hb hts i_X2_prepare_X2 tyX2 tyX2_ok nmX2 hown hK hW.1 hW.2.1 hW.2.2 0 rfl rfl 2 (by decide) (hts (.fieldLink RX2 27 "TreeHashes$Mix" "count" "J") f_X2_prepare_0) (fun _ h9 => h9) rfl (by decide +kernel) rfl rfl (Nat.le_of_ble_eq_true rfl) dX2_prepare_56 (fun H locs hP hD hS => ?_)
              have hW : Wd D A s [(m0, .inr (2, [.ref mc, .ref mb, .long (ct2), .int (ln), .int (fl), .ref mv, .ref aw, .ref an])), (mc, .inl (cy 0, 8, .inl (apG ch 0 kf 8))), (mb, .inl (cy 0, 16, .inl (apG bl 0 kg i2))), (kc, .inl (cy 0, 8, .inl (kf))), (kb, .inl (cy 0, 16, .inl (kg)))] H locs := ⟨hP, hD, hS⟩
              refine lv_aload_n hx hb dX2_prepare_59 rfl (lv_at hl 0 rfl) ?_
              refine lv_iload hx hb dX2_prepare_60 (lv_at hl 4 rfl) ?_
              refine va_put (D := D) (ci := 2) (v := .int (ln2)) (ty := .int) (C := RX2) (T := TX2) (N := 8) hx hb hts i_X2_prepare_X2 tyX2 tyX2_ok nmX2 hown hK hW.1 hW.2.1 hW.2.2 0 rfl rfl 3 (by decide) (hts (.fieldLink RX2 31 "TreeHashes$Mix" "length" "I") f_X2_prepare_2) (fun _ h9 => h9) rfl (by decide +kernel) rfl rfl (Nat.le_of_ble_eq_true rfl) dX2_prepare_62 (fun H locs hP hD hS => ?_)
              have hW : Wd D A s [(m0, .inr (2, [.ref mc, .ref mb, .long (ct2), .int (ln2), .int (fl), .ref mv, .ref aw, .ref an])), (mc, .inl (cy 0, 8, .inl (apG ch 0 kf 8))), (mb, .inl (cy 0, 16, .inl (apG bl 0 kg i2))), (kc, .inl (cy 0, 8, .inl (kf))), (kb, .inl (cy 0, 16, .inl (kg)))] H locs := ⟨hP, hD, hS⟩
              refine lv_aload_n hx hb dX2_prepare_65 rfl (lv_at hl 0 rfl) ?_
              refine lv_iload hx hb dX2_prepare_66 (lv_at hl 5 rfl) ?_
              refine va_put (D := D) (ci := 2) (v := .int (fl2)) (ty := .int) (C := RX2) (T := TX2) (N := 8) hx hb hts i_X2_prepare_X2 tyX2 tyX2_ok nmX2 hown hK hW.1 hW.2.1 hW.2.2 0 rfl rfl 4 (by decide) (hts (.fieldLink RX2 35 "TreeHashes$Mix" "flags" "I") f_X2_prepare_3) (fun _ h9 => h9) rfl (by decide +kernel) rfl rfl (Nat.le_of_ble_eq_true rfl) dX2_prepare_68 (fun H locs hP hD hS => ?_)
              have hW : Wd D A s [(m0, .inr (2, [.ref mc, .ref mb, .long (ct2), .int (ln2), .int (fl2), .ref mv, .ref aw, .ref an])), (mc, .inl (cy 0, 8, .inl (apG ch 0 kf 8))), (mb, .inl (cy 0, 16, .inl (apG bl 0 kg i2))), (kc, .inl (cy 0, 8, .inl (kf))), (kb, .inl (cy 0, 16, .inl (kg)))] H locs := ⟨hP, hD, hS⟩
              have e9 : i2 = 16 := by omega
              try rw [e9] at hW
              have hW := Wd.ext hW 1 rfl kf apG_all
              have hW := Wd.ext hW 2 rfl kg apG_all
              exact eV hQ hx hb hr hlocks hK hW () (trivial) (rfl) dX2_prepare_71
            · skip
              refine lv_aload_n hx hb dX2_prepare_37 rfl (lv_at hl 0 rfl) ?_
              refine va_get (D := D) (ci := 2) (v := .ref mb) (C := RX2) (T := TX2) (N := 8) hx hb hts i_X2_prepare_X2 hown hK hW.1 0 rfl rfl 1 (by decide) (hts (.fieldLink RX2 15 "TreeHashes$Mix" "block" "[I") f_X2_prepare_4) (fun _ h9 => h9) rfl dX2_prepare_38 ?_
              refine lv_iload hx hb dX2_prepare_41 (lv_at hl 6 rfl) ?_
              refine lv_aload_n hx hb dX2_prepare_43 rfl (lv_at hl 2 rfl) ?_
              refine lv_iload hx hb dX2_prepare_44 (lv_at hl 6 rfl) ?_
              refine rI hx hb hK hW 4 rfl (k := i2) (by omega) (by omega) dX2_prepare_46 ?_
              refine wI hx hb hK hW 2 rfl (k := i2) (by omega) (by omega) dX2_prepare_47 (fun H locs hW => ?_)
              have hW : Wd D A s [(m0, .inr (2, [.ref mc, .ref mb, .long (ct), .int (ln), .int (fl), .ref mv, .ref aw, .ref an])), (mc, .inl (cy 0, 8, .inl (apG ch 0 kf 8))), (mb, .inl (cy 0, 16, .inl (upd (apG bl 0 kg i2) i2 (kg i2)))), (kc, .inl (cy 0, 8, .inl (kf))), (kb, .inl (cy 0, 16, .inl (kg)))] H locs := hW
              rw [show (upd (apG bl 0 kg i2) i2 (kg i2)) = (apG bl 0 kg (i2 + 1)) from by rw [← apG_s bl 0 kg i2, Nat.zero_add]] at hW
              have hW : Wd D A s [(m0, .inr (2, [.ref mc, .ref mb, .long (ct), .int (ln), .int (fl), .ref mv, .ref aw, .ref an])), (mc, .inl (cy 0, 8, .inl (apG ch 0 kf 8))), (mb, .inl (cy 0, 16, .inl (apG bl 0 kg (i2 + 1)))), (kc, .inl (cy 0, 8, .inl (kf))), (kb, .inl (cy 0, 16, .inl (kg)))] H locs := hW
              refine lv_iinc (v := nI (i2 + 1)) (lv' := [(7, .int (nI (i2 + 1))), (0, .ref m0), (1, .ref kc), (2, .ref kb), (3, .long (ct2)), (5, .int (ln2)), (6, .int (fl2))]) hx hb dX2_prepare_48 hl (k := 6) rfl (nI_1 _) (by decide) rfl (fun ls hl => ?_)
              refine lv_goto (tgt := 30) hx hb dX2_prepare_51 (by decide) ?_
              exact ih (i2 + 1) (by omega) (by omega) _ _ hW _ (lv_sub hl [1, 2, 3, 4, 5, 6, 0] rfl)
        rw [← apG_0 bl 0 kg] at hW
        exact loop30 _ 0 (Nat.lt_succ_self _) (by omega) _ _ hW _ (lv_sub hl [1, 2, 3, 4, 5, 6, 0] rfl)
      · skip
        refine lv_aload_n hx hb dX2_prepare_10 rfl (lv_at hl 0 rfl) ?_
        refine va_get (D := D) (ci := 2) (v := .ref mc) (C := RX2) (T := TX2) (N := 8) hx hb hts i_X2_prepare_X2 hown hK hW.1 0 rfl rfl 0 (by decide) (hts (.fieldLink RX2 9 "TreeHashes$Mix" "chain" "[I") f_X2_prepare_5) (fun _ h9 => h9) rfl dX2_prepare_11 ?_
        refine lv_iload hx hb dX2_prepare_14 (lv_at hl 6 rfl) ?_
        refine lv_aload_n hx hb dX2_prepare_16 rfl (lv_at hl 1 rfl) ?_
        refine lv_iload hx hb dX2_prepare_17 (lv_at hl 6 rfl) ?_
        refine rI hx hb hK hW 3 rfl (k := i) (by omega) (by omega) dX2_prepare_19 ?_
        refine wI hx hb hK hW 1 rfl (k := i) (by omega) (by omega) dX2_prepare_20 (fun H locs hW => ?_)
        have hW : Wd D A s [(m0, .inr (2, [.ref mc, .ref mb, .long (ct), .int (ln), .int (fl), .ref mv, .ref aw, .ref an])), (mc, .inl (cy 0, 8, .inl (upd (apG ch 0 kf i) i (kf i)))), (mb, .inl (cy 0, 16, .inl (bl))), (kc, .inl (cy 0, 8, .inl (kf))), (kb, .inl (cy 0, 16, .inl (kg)))] H locs := hW
        rw [show (upd (apG ch 0 kf i) i (kf i)) = (apG ch 0 kf (i + 1)) from by rw [← apG_s ch 0 kf i, Nat.zero_add]] at hW
        have hW : Wd D A s [(m0, .inr (2, [.ref mc, .ref mb, .long (ct), .int (ln), .int (fl), .ref mv, .ref aw, .ref an])), (mc, .inl (cy 0, 8, .inl (apG ch 0 kf (i + 1)))), (mb, .inl (cy 0, 16, .inl (bl))), (kc, .inl (cy 0, 8, .inl (kf))), (kb, .inl (cy 0, 16, .inl (kg)))] H locs := hW
        refine lv_iinc (v := nI (i + 1)) (lv' := [(7, .int (nI (i + 1))), (0, .ref m0), (1, .ref kc), (2, .ref kb), (3, .long (ct2)), (5, .int (ln2)), (6, .int (fl2))]) hx hb dX2_prepare_21 hl (k := 6) rfl (nI_1 _) (by decide) rfl (fun ls hl => ?_)
        refine lv_goto (tgt := 3) hx hb dX2_prepare_24 (by decide) ?_
        exact ih (i + 1) (by omega) (by omega) _ _ hW _ (lv_sub hl [1, 2, 3, 4, 5, 6, 0] rfl)
  rw [← apG_0 ch 0 kf] at hW
  exact loop3 _ 0 (Nat.lt_succ_self _) (by omega) _ _ hW _ (lv_sub hl [1, 2, 3, 4, 5, 6, 0] rfl)

theorem f_X2_prepare_b_0 : Cond.fieldLink RX2 27 "TreeHashes$Mix" "count" "J" ∈ wsX2_prepare := by decide +kernel
theorem i_X2_prepare_b_X2 : ∀ w ∈ wsX20, w ∈ wsX2_prepare := by decide +kernel
theorem f_X2_prepare_b_2 : Cond.fieldLink RX2 31 "TreeHashes$Mix" "length" "I" ∈ wsX2_prepare := by decide +kernel
theorem f_X2_prepare_b_3 : Cond.fieldLink RX2 35 "TreeHashes$Mix" "flags" "I" ∈ wsX2_prepare := by decide +kernel
theorem f_X2_prepare_b_4 : Cond.fieldLink RX2 15 "TreeHashes$Mix" "block" "[I" ∈ wsX2_prepare := by decide +kernel
theorem f_X2_prepare_b_5 : Cond.fieldLink RX2 9 "TreeHashes$Mix" "chain" "[I" ∈ wsX2_prepare := by decide +kernel
set_option maxHeartbeats 4000000 in
set_option maxRecDepth 100000 in
theorem c_X2_prepare_b (l : Launch) (D : va_G) (cy : Nat → ClassId) (t : Nat × Nat) (m0 : Nat) (mc : Nat) (mb : Nat) (mv : Nat) (aw : Nat) (an : Nat) (ct : Int64) (ln : Int32) (fl : Int32) (ch : Nat → Int32) (bl : Nat → Int32) (kc : Nat) (kf : Nat → Int32) (ct2 : Int64) (ln2 : Int32) (fl2 : Int32)  (sz : Nat) : Met l yX2_prepare wsX2_prepare ({ frames := 0, cells := 0, slots := 0, locals := 0 }) (PcW D cy t [(m0, .inr (2, [.ref mc, .ref mb, .long (ct), .int (ln), .int (fl), .ref mv, .ref aw, .ref an])), (mc, .inl (cy 0, 8, .inl (ch))), (mb, .inl (cy 0, 16, .inl (bl))), (kc, .inl (cy 0, 8, .inl (kf)))] [.ref m0, .ref kc, .ref mb, .long (ct2), .int (ln2), .int (fl2)] sz) (QvA D cy (fun u : Unit => True) (fun u : Unit => [(m0, .inr (2, [.ref mc, .ref mb, .long (ct2), .int (ln2), .int (fl2), .ref mv, .ref aw, .ref an])), (mc, .inl (cy 0, 8, .inl (kf))), (mb, .inl (cy 0, 16, .inl (bl))), (kc, .inl (cy 0, 8, .inl (kf)))]) (va_A [(m0, .inr (2, [.ref mc, .ref mb, .long (ct), .int (ln), .int (fl), .ref mv, .ref aw, .ref an])), (mc, .inl (cy 0, 8, .inl (ch))), (mb, .inl (cy 0, 16, .inl (bl))), (kc, .inl (cy 0, 8, .inl (kf)))] sz)) 0 0 (va_A [(m0, .inr (2, [.ref mc, .ref mb, .long (ct), .int (ln), .int (fl), .ref mv, .ref aw, .ref an])), (mc, .inl (cy 0, 8, .inl (ch))), (mb, .inl (cy 0, 16, .inl (bl))), (kc, .inl (cy 0, 8, .inl (kf)))] sz) := by
  refine M_ofW (cc := cX2_prepare) (maxL := 8) (ret := none) (by decide) rfl (Nat.le_of_ble_eq_true rfl) ?_
  intro p e s m below meth c A ls args Q hQ S0 hr hlocks hnm hK hst hA hW hl
  have hx := S0.1; have hb := S0.2.1; have hml := S0.2.2.1; have hown := S0.2.2.2.1; have hts := S0.2.2.2.2
  have hl : lv_has ls 8 [(0, .ref m0), (1, .ref kc), (2, .ref mb), (3, .long (ct2)), (5, .int (ln2)), (6, .int (fl2))] := hl
  refine lv_iconst (v := nI (0)) hx hb dX2_prepare_0 (by decide) ?_
  refine lv_istore (lv' := [(7, .int (nI (0))), (0, .ref m0), (1, .ref kc), (2, .ref mb), (3, .long (ct2)), (5, .int (ln2)), (6, .int (fl2))]) hx hb dX2_prepare_1 hl (by decide) rfl (fun ls hl => ?_)
  have loop3 : ∀ (nF : Nat) (i : Nat), 8 - i < nF → (i ≤ 8) → ∀ (H : Heap) (locs : List Loc), Wd D A s [(m0, .inr (2, [.ref mc, .ref mb, .long (ct), .int (ln), .int (fl), .ref mv, .ref aw, .ref an])), (mc, .inl (cy 0, 8, .inl (apG ch 0 kf i))), (mb, .inl (cy 0, 16, .inl (bl))), (kc, .inl (cy 0, 8, .inl (kf)))] H locs → ∀ ls : Array Slot, lv_has ls 8 [(0, .ref m0), (1, .ref kc), (2, .ref mb), (3, .long (ct2)), (5, .int (ln2)), (6, .int (fl2)), (7, .int (nI (i)))] → W p l e ({ frames := 0, cells := 0, slots := 0, locals := 0 }) s m args below meth c H locs 0 0 Q (F0 m 3 ls []) := by
    intro nF
    induction nF with
    | zero => intro i hf; exact absurd hf (Nat.not_lt_zero _)
    | succ nF ih =>
      intro i hf hi H locs hW ls hl
      refine lv_iload hx hb dX2_prepare_3 (lv_at hl 6 rfl) ?_
      refine lv_bipush (v := nI (8)) hx hb dX2_prepare_5 (by decide) ?_
      refine iGe (a := i) (b := 8) (tgt := 27) hx hb dX2_prepare_7 (by decide) (by omega) (by omega) (fun h7 => ?_) (fun h7 => ?_)
      · skip
        refine lv_iconst (v := nI (0)) hx hb dX2_prepare_27 (by decide) ?_
        refine lv_istore (lv' := [(7, .int (nI (0))), (0, .ref m0), (1, .ref kc), (2, .ref mb), (3, .long (ct2)), (5, .int (ln2)), (6, .int (fl2))]) hx hb dX2_prepare_28 hl (by decide) rfl (fun ls hl => ?_)
        have e9 : i = 8 := by omega
        try rw [e9] at hW
        have loop30 : ∀ (nF : Nat) (i2 : Nat), 16 - i2 < nF → (i2 ≤ 16) → ∀ (H : Heap) (locs : List Loc), Wd D A s [(m0, .inr (2, [.ref mc, .ref mb, .long (ct), .int (ln), .int (fl), .ref mv, .ref aw, .ref an])), (mc, .inl (cy 0, 8, .inl (apG ch 0 kf 8))), (mb, .inl (cy 0, 16, .inl (bl))), (kc, .inl (cy 0, 8, .inl (kf)))] H locs → ∀ ls : Array Slot, lv_has ls 8 [(0, .ref m0), (1, .ref kc), (2, .ref mb), (3, .long (ct2)), (5, .int (ln2)), (6, .int (fl2)), (7, .int (nI (i2)))] → W p l e ({ frames := 0, cells := 0, slots := 0, locals := 0 }) s m args below meth c H locs 0 0 Q (F0 m 30 ls []) := by
          intro nF
          induction nF with
          | zero => intro i2 hf; exact absurd hf (Nat.not_lt_zero _)
          | succ nF ih =>
            intro i2 hf hi2 H locs hW ls hl
            refine lv_iload hx hb dX2_prepare_30 (lv_at hl 6 rfl) ?_
            refine lv_bipush (v := nI (16)) hx hb dX2_prepare_32 (by decide) ?_
            refine iGe (a := i2) (b := 16) (tgt := 54) hx hb dX2_prepare_34 (by decide) (by omega) (by omega) (fun h34 => ?_) (fun h34 => ?_)
            · skip
              refine lv_aload_n hx hb dX2_prepare_54 rfl (lv_at hl 0 rfl) ?_
              refine lv_lload_n hx hb dX2_prepare_55 rfl (lv_at hl 3 rfl) ?_
              refine va_put (D := D) (ci := 2) (v := .long (ct2)) (ty := .long) (C := RX2) (T := TX2) (N := 8) hx hb hts i_X2_prepare_b_X2 tyX2 tyX2_ok nmX2 hown hK hW.1 hW.2.1 hW.2.2 0 rfl rfl 2 (by decide) (hts (.fieldLink RX2 27 "TreeHashes$Mix" "count" "J") f_X2_prepare_b_0) (fun _ h9 => h9) rfl (by decide +kernel) rfl rfl (Nat.le_of_ble_eq_true rfl) dX2_prepare_56 (fun H locs hP hD hS => ?_)
              have hW : Wd D A s [(m0, .inr (2, [.ref mc, .ref mb, .long (ct2), .int (ln), .int (fl), .ref mv, .ref aw, .ref an])), (mc, .inl (cy 0, 8, .inl (apG ch 0 kf 8))), (mb, .inl (cy 0, 16, .inl (bl))), (kc, .inl (cy 0, 8, .inl (kf)))] H locs := ⟨hP, hD, hS⟩
              refine lv_aload_n hx hb dX2_prepare_59 rfl (lv_at hl 0 rfl) ?_
              refine lv_iload hx hb dX2_prepare_60 (lv_at hl 4 rfl) ?_
              refine va_put (D := D) (ci := 2) (v := .int (ln2)) (ty := .int) (C := RX2) (T := TX2) (N := 8) hx hb hts i_X2_prepare_b_X2 tyX2 tyX2_ok nmX2 hown hK hW.1 hW.2.1 hW.2.2 0 rfl rfl 3 (by decide) (hts (.fieldLink RX2 31 "TreeHashes$Mix" "length" "I") f_X2_prepare_b_2) (fun _ h9 => h9) rfl (by decide +kernel) rfl rfl (Nat.le_of_ble_eq_true rfl) dX2_prepare_62 (fun H locs hP hD hS => ?_)
              have hW : Wd D A s [(m0, .inr (2, [.ref mc, .ref mb, .long (ct2), .int (ln2), .int (fl), .ref mv, .ref aw, .ref an])), (mc, .inl (cy 0, 8, .inl (apG ch 0 kf 8))), (mb, .inl (cy 0, 16, .inl (bl))), (kc, .inl (cy 0, 8, .inl (kf)))] H locs := ⟨hP, hD, hS⟩
              refine lv_aload_n hx hb dX2_prepare_65 rfl (lv_at hl 0 rfl) ?_
              refine lv_iload hx hb dX2_prepare_66 (lv_at hl 5 rfl) ?_
              refine va_put (D := D) (ci := 2) (v := .int (fl2)) (ty := .int) (C := RX2) (T := TX2) (N := 8) hx hb hts i_X2_prepare_b_X2 tyX2 tyX2_ok nmX2 hown hK hW.1 hW.2.1 hW.2.2 0 rfl rfl 4 (by decide) (hts (.fieldLink RX2 35 "TreeHashes$Mix" "flags" "I") f_X2_prepare_b_3) (fun _ h9 => h9) rfl (by decide +kernel) rfl rfl (Nat.le_of_ble_eq_true rfl) dX2_prepare_68 (fun H locs hP hD hS => ?_)
              have hW : Wd D A s [(m0, .inr (2, [.ref mc, .ref mb, .long (ct2), .int (ln2), .int (fl2), .ref mv, .ref aw, .ref an])), (mc, .inl (cy 0, 8, .inl (apG ch 0 kf 8))), (mb, .inl (cy 0, 16, .inl (bl))), (kc, .inl (cy 0, 8, .inl (kf)))] H locs := ⟨hP, hD, hS⟩
              have e9 : i2 = 16 := by omega
              try rw [e9] at hW
              have hW := Wd.ext hW 1 rfl kf apG_all
              exact eV hQ hx hb hr hlocks hK hW () (trivial) (rfl) dX2_prepare_71
            · skip
              refine lv_aload_n hx hb dX2_prepare_37 rfl (lv_at hl 0 rfl) ?_
              refine va_get (D := D) (ci := 2) (v := .ref mb) (C := RX2) (T := TX2) (N := 8) hx hb hts i_X2_prepare_b_X2 hown hK hW.1 0 rfl rfl 1 (by decide) (hts (.fieldLink RX2 15 "TreeHashes$Mix" "block" "[I") f_X2_prepare_b_4) (fun _ h9 => h9) rfl dX2_prepare_38 ?_
              refine lv_iload hx hb dX2_prepare_41 (lv_at hl 6 rfl) ?_
              refine lv_aload_n hx hb dX2_prepare_43 rfl (lv_at hl 2 rfl) ?_
              refine lv_iload hx hb dX2_prepare_44 (lv_at hl 6 rfl) ?_
              refine rI hx hb hK hW 2 rfl (k := i2) (by omega) (by omega) dX2_prepare_46 ?_
              refine wI hx hb hK hW 2 rfl (k := i2) (by omega) (by omega) dX2_prepare_47 (fun H locs hW => ?_)
              have hW : Wd D A s [(m0, .inr (2, [.ref mc, .ref mb, .long (ct), .int (ln), .int (fl), .ref mv, .ref aw, .ref an])), (mc, .inl (cy 0, 8, .inl (apG ch 0 kf 8))), (mb, .inl (cy 0, 16, .inl (upd bl i2 (bl i2)))), (kc, .inl (cy 0, 8, .inl (kf)))] H locs := hW
              rw [show (upd bl i2 (bl i2)) = (bl) from upd_self bl i2] at hW
              have hW : Wd D A s [(m0, .inr (2, [.ref mc, .ref mb, .long (ct), .int (ln), .int (fl), .ref mv, .ref aw, .ref an])), (mc, .inl (cy 0, 8, .inl (apG ch 0 kf 8))), (mb, .inl (cy 0, 16, .inl (bl))), (kc, .inl (cy 0, 8, .inl (kf)))] H locs := hW
              refine lv_iinc (v := nI (i2 + 1)) (lv' := [(7, .int (nI (i2 + 1))), (0, .ref m0), (1, .ref kc), (2, .ref mb), (3, .long (ct2)), (5, .int (ln2)), (6, .int (fl2))]) hx hb dX2_prepare_48 hl (k := 6) rfl (nI_1 _) (by decide) rfl (fun ls hl => ?_)
              refine lv_goto (tgt := 30) hx hb dX2_prepare_51 (by decide) ?_
              exact ih (i2 + 1) (by omega) (by omega) _ _ hW _ (lv_sub hl [1, 2, 3, 4, 5, 6, 0] rfl)
        exact loop30 _ 0 (Nat.lt_succ_self _) (by omega) _ _ hW _ (lv_sub hl [1, 2, 3, 4, 5, 6, 0] rfl)
      · skip
        refine lv_aload_n hx hb dX2_prepare_10 rfl (lv_at hl 0 rfl) ?_
        refine va_get (D := D) (ci := 2) (v := .ref mc) (C := RX2) (T := TX2) (N := 8) hx hb hts i_X2_prepare_b_X2 hown hK hW.1 0 rfl rfl 0 (by decide) (hts (.fieldLink RX2 9 "TreeHashes$Mix" "chain" "[I") f_X2_prepare_b_5) (fun _ h9 => h9) rfl dX2_prepare_11 ?_
        refine lv_iload hx hb dX2_prepare_14 (lv_at hl 6 rfl) ?_
        refine lv_aload_n hx hb dX2_prepare_16 rfl (lv_at hl 1 rfl) ?_
        refine lv_iload hx hb dX2_prepare_17 (lv_at hl 6 rfl) ?_
        refine rI hx hb hK hW 3 rfl (k := i) (by omega) (by omega) dX2_prepare_19 ?_
        refine wI hx hb hK hW 1 rfl (k := i) (by omega) (by omega) dX2_prepare_20 (fun H locs hW => ?_)
        have hW : Wd D A s [(m0, .inr (2, [.ref mc, .ref mb, .long (ct), .int (ln), .int (fl), .ref mv, .ref aw, .ref an])), (mc, .inl (cy 0, 8, .inl (upd (apG ch 0 kf i) i (kf i)))), (mb, .inl (cy 0, 16, .inl (bl))), (kc, .inl (cy 0, 8, .inl (kf)))] H locs := hW
        rw [show (upd (apG ch 0 kf i) i (kf i)) = (apG ch 0 kf (i + 1)) from by rw [← apG_s ch 0 kf i, Nat.zero_add]] at hW
        have hW : Wd D A s [(m0, .inr (2, [.ref mc, .ref mb, .long (ct), .int (ln), .int (fl), .ref mv, .ref aw, .ref an])), (mc, .inl (cy 0, 8, .inl (apG ch 0 kf (i + 1)))), (mb, .inl (cy 0, 16, .inl (bl))), (kc, .inl (cy 0, 8, .inl (kf)))] H locs := hW
        refine lv_iinc (v := nI (i + 1)) (lv' := [(7, .int (nI (i + 1))), (0, .ref m0), (1, .ref kc), (2, .ref mb), (3, .long (ct2)), (5, .int (ln2)), (6, .int (fl2))]) hx hb dX2_prepare_21 hl (k := 6) rfl (nI_1 _) (by decide) rfl (fun ls hl => ?_)
        refine lv_goto (tgt := 3) hx hb dX2_prepare_24 (by decide) ?_
        exact ih (i + 1) (by omega) (by omega) _ _ hW _ (lv_sub hl [1, 2, 3, 4, 5, 6, 0] rfl)
  rw [← apG_0 ch 0 kf] at hW
  exact loop3 _ 0 (Nat.lt_succ_self _) (by omega) _ _ hW _ (lv_sub hl [1, 2, 3, 4, 5, 6, 0] rfl)

theorem f_X2_prepare_s_0 : Cond.fieldLink RX2 27 "TreeHashes$Mix" "count" "J" ∈ wsX2_prepare := by decide +kernel
theorem i_X2_prepare_s_X2 : ∀ w ∈ wsX20, w ∈ wsX2_prepare := by decide +kernel
theorem f_X2_prepare_s_2 : Cond.fieldLink RX2 31 "TreeHashes$Mix" "length" "I" ∈ wsX2_prepare := by decide +kernel
theorem f_X2_prepare_s_3 : Cond.fieldLink RX2 35 "TreeHashes$Mix" "flags" "I" ∈ wsX2_prepare := by decide +kernel
theorem f_X2_prepare_s_4 : Cond.fieldLink RX2 15 "TreeHashes$Mix" "block" "[I" ∈ wsX2_prepare := by decide +kernel
theorem f_X2_prepare_s_5 : Cond.fieldLink RX2 9 "TreeHashes$Mix" "chain" "[I" ∈ wsX2_prepare := by decide +kernel
set_option maxHeartbeats 4000000 in
set_option maxRecDepth 100000 in
theorem c_X2_prepare_s (l : Launch) (D : va_G) (cy : Nat → ClassId) (t : Nat × Nat) (m0 : Nat) (mc : Nat) (mb : Nat) (mv : Nat) (aw : Nat) (an : Nat) (ct : Int64) (ln : Int32) (fl : Int32) (ch : Nat → Int32) (bl : Nat → Int32) (ct2 : Int64) (ln2 : Int32) (fl2 : Int32)  (sz : Nat) : Met l yX2_prepare wsX2_prepare ({ frames := 0, cells := 0, slots := 0, locals := 0 }) (PcW D cy t [(m0, .inr (2, [.ref mc, .ref mb, .long (ct), .int (ln), .int (fl), .ref mv, .ref aw, .ref an])), (mc, .inl (cy 0, 8, .inl (ch))), (mb, .inl (cy 0, 16, .inl (bl)))] [.ref m0, .ref t.1, .ref mb, .long (ct2), .int (ln2), .int (fl2)] sz) (QvA D cy (fun u : Unit => True) (fun u : Unit => [(m0, .inr (2, [.ref mc, .ref mb, .long (ct2), .int (ln2), .int (fl2), .ref mv, .ref aw, .ref an])), (mc, .inl (cy 0, 8, .inl (stA))), (mb, .inl (cy 0, 16, .inl (bl)))]) (va_A [(m0, .inr (2, [.ref mc, .ref mb, .long (ct), .int (ln), .int (fl), .ref mv, .ref aw, .ref an])), (mc, .inl (cy 0, 8, .inl (ch))), (mb, .inl (cy 0, 16, .inl (bl)))] sz)) 0 0 (va_A [(m0, .inr (2, [.ref mc, .ref mb, .long (ct), .int (ln), .int (fl), .ref mv, .ref aw, .ref an])), (mc, .inl (cy 0, 8, .inl (ch))), (mb, .inl (cy 0, 16, .inl (bl)))] sz) := by
  refine M_ofW (cc := cX2_prepare) (maxL := 8) (ret := none) (by decide) rfl (Nat.le_of_ble_eq_true rfl) ?_
  intro p e s m below meth c A ls args Q hQ S0 hr hlocks hnm hK hst hA hW hl
  have hx := S0.1; have hb := S0.2.1; have hml := S0.2.2.1; have hown := S0.2.2.2.1; have hts := S0.2.2.2.2
  have hl : lv_has ls 8 [(0, .ref m0), (1, .ref t.1), (2, .ref mb), (3, .long (ct2)), (5, .int (ln2)), (6, .int (fl2))] := hl
  refine lv_iconst (v := nI (0)) hx hb dX2_prepare_0 (by decide) ?_
  refine lv_istore (lv' := [(7, .int (nI (0))), (0, .ref m0), (1, .ref t.1), (2, .ref mb), (3, .long (ct2)), (5, .int (ln2)), (6, .int (fl2))]) hx hb dX2_prepare_1 hl (by decide) rfl (fun ls hl => ?_)
  have loop3 : ∀ (nF : Nat) (i : Nat), 8 - i < nF → (i ≤ 8) → ∀ (H : Heap) (locs : List Loc), Wd D A s [(m0, .inr (2, [.ref mc, .ref mb, .long (ct), .int (ln), .int (fl), .ref mv, .ref aw, .ref an])), (mc, .inl (cy 0, 8, .inl (apG ch 0 stA i))), (mb, .inl (cy 0, 16, .inl (bl)))] H locs → ∀ ls : Array Slot, lv_has ls 8 [(0, .ref m0), (1, .ref t.1), (2, .ref mb), (3, .long (ct2)), (5, .int (ln2)), (6, .int (fl2)), (7, .int (nI (i)))] → W p l e ({ frames := 0, cells := 0, slots := 0, locals := 0 }) s m args below meth c H locs 0 0 Q (F0 m 3 ls []) := by
    intro nF
    induction nF with
    | zero => intro i hf; exact absurd hf (Nat.not_lt_zero _)
    | succ nF ih =>
      intro i hf hi H locs hW ls hl
      refine lv_iload hx hb dX2_prepare_3 (lv_at hl 6 rfl) ?_
      refine lv_bipush (v := nI (8)) hx hb dX2_prepare_5 (by decide) ?_
      refine iGe (a := i) (b := 8) (tgt := 27) hx hb dX2_prepare_7 (by decide) (by omega) (by omega) (fun h7 => ?_) (fun h7 => ?_)
      · skip
        refine lv_iconst (v := nI (0)) hx hb dX2_prepare_27 (by decide) ?_
        refine lv_istore (lv' := [(7, .int (nI (0))), (0, .ref m0), (1, .ref t.1), (2, .ref mb), (3, .long (ct2)), (5, .int (ln2)), (6, .int (fl2))]) hx hb dX2_prepare_28 hl (by decide) rfl (fun ls hl => ?_)
        have e9 : i = 8 := by omega
        try rw [e9] at hW
        have loop30 : ∀ (nF : Nat) (i2 : Nat), 16 - i2 < nF → (i2 ≤ 16) → ∀ (H : Heap) (locs : List Loc), Wd D A s [(m0, .inr (2, [.ref mc, .ref mb, .long (ct), .int (ln), .int (fl), .ref mv, .ref aw, .ref an])), (mc, .inl (cy 0, 8, .inl (apG ch 0 stA 8))), (mb, .inl (cy 0, 16, .inl (bl)))] H locs → ∀ ls : Array Slot, lv_has ls 8 [(0, .ref m0), (1, .ref t.1), (2, .ref mb), (3, .long (ct2)), (5, .int (ln2)), (6, .int (fl2)), (7, .int (nI (i2)))] → W p l e ({ frames := 0, cells := 0, slots := 0, locals := 0 }) s m args below meth c H locs 0 0 Q (F0 m 30 ls []) := by
          intro nF
          induction nF with
          | zero => intro i2 hf; exact absurd hf (Nat.not_lt_zero _)
          | succ nF ih =>
            intro i2 hf hi2 H locs hW ls hl
            refine lv_iload hx hb dX2_prepare_30 (lv_at hl 6 rfl) ?_
            refine lv_bipush (v := nI (16)) hx hb dX2_prepare_32 (by decide) ?_
            refine iGe (a := i2) (b := 16) (tgt := 54) hx hb dX2_prepare_34 (by decide) (by omega) (by omega) (fun h34 => ?_) (fun h34 => ?_)
            · skip
              refine lv_aload_n hx hb dX2_prepare_54 rfl (lv_at hl 0 rfl) ?_
              refine lv_lload_n hx hb dX2_prepare_55 rfl (lv_at hl 3 rfl) ?_
              refine va_put (D := D) (ci := 2) (v := .long (ct2)) (ty := .long) (C := RX2) (T := TX2) (N := 8) hx hb hts i_X2_prepare_s_X2 tyX2 tyX2_ok nmX2 hown hK hW.1 hW.2.1 hW.2.2 0 rfl rfl 2 (by decide) (hts (.fieldLink RX2 27 "TreeHashes$Mix" "count" "J") f_X2_prepare_s_0) (fun _ h9 => h9) rfl (by decide +kernel) rfl rfl (Nat.le_of_ble_eq_true rfl) dX2_prepare_56 (fun H locs hP hD hS => ?_)
              have hW : Wd D A s [(m0, .inr (2, [.ref mc, .ref mb, .long (ct2), .int (ln), .int (fl), .ref mv, .ref aw, .ref an])), (mc, .inl (cy 0, 8, .inl (apG ch 0 stA 8))), (mb, .inl (cy 0, 16, .inl (bl)))] H locs := ⟨hP, hD, hS⟩
              refine lv_aload_n hx hb dX2_prepare_59 rfl (lv_at hl 0 rfl) ?_
              refine lv_iload hx hb dX2_prepare_60 (lv_at hl 4 rfl) ?_
              refine va_put (D := D) (ci := 2) (v := .int (ln2)) (ty := .int) (C := RX2) (T := TX2) (N := 8) hx hb hts i_X2_prepare_s_X2 tyX2 tyX2_ok nmX2 hown hK hW.1 hW.2.1 hW.2.2 0 rfl rfl 3 (by decide) (hts (.fieldLink RX2 31 "TreeHashes$Mix" "length" "I") f_X2_prepare_s_2) (fun _ h9 => h9) rfl (by decide +kernel) rfl rfl (Nat.le_of_ble_eq_true rfl) dX2_prepare_62 (fun H locs hP hD hS => ?_)
              have hW : Wd D A s [(m0, .inr (2, [.ref mc, .ref mb, .long (ct2), .int (ln2), .int (fl), .ref mv, .ref aw, .ref an])), (mc, .inl (cy 0, 8, .inl (apG ch 0 stA 8))), (mb, .inl (cy 0, 16, .inl (bl)))] H locs := ⟨hP, hD, hS⟩
              refine lv_aload_n hx hb dX2_prepare_65 rfl (lv_at hl 0 rfl) ?_
              refine lv_iload hx hb dX2_prepare_66 (lv_at hl 5 rfl) ?_
              refine va_put (D := D) (ci := 2) (v := .int (fl2)) (ty := .int) (C := RX2) (T := TX2) (N := 8) hx hb hts i_X2_prepare_s_X2 tyX2 tyX2_ok nmX2 hown hK hW.1 hW.2.1 hW.2.2 0 rfl rfl 4 (by decide) (hts (.fieldLink RX2 35 "TreeHashes$Mix" "flags" "I") f_X2_prepare_s_3) (fun _ h9 => h9) rfl (by decide +kernel) rfl rfl (Nat.le_of_ble_eq_true rfl) dX2_prepare_68 (fun H locs hP hD hS => ?_)
              have hW : Wd D A s [(m0, .inr (2, [.ref mc, .ref mb, .long (ct2), .int (ln2), .int (fl2), .ref mv, .ref aw, .ref an])), (mc, .inl (cy 0, 8, .inl (apG ch 0 stA 8))), (mb, .inl (cy 0, 16, .inl (bl)))] H locs := ⟨hP, hD, hS⟩
              have e9 : i2 = 16 := by omega
              try rw [e9] at hW
              have hW := Wd.ext hW 1 rfl stA apG_all
              exact eV hQ hx hb hr hlocks hK hW () (trivial) (rfl) dX2_prepare_71
            · skip
              refine lv_aload_n hx hb dX2_prepare_37 rfl (lv_at hl 0 rfl) ?_
              refine va_get (D := D) (ci := 2) (v := .ref mb) (C := RX2) (T := TX2) (N := 8) hx hb hts i_X2_prepare_s_X2 hown hK hW.1 0 rfl rfl 1 (by decide) (hts (.fieldLink RX2 15 "TreeHashes$Mix" "block" "[I") f_X2_prepare_s_4) (fun _ h9 => h9) rfl dX2_prepare_38 ?_
              refine lv_iload hx hb dX2_prepare_41 (lv_at hl 6 rfl) ?_
              refine lv_aload_n hx hb dX2_prepare_43 rfl (lv_at hl 2 rfl) ?_
              refine lv_iload hx hb dX2_prepare_44 (lv_at hl 6 rfl) ?_
              refine rI hx hb hK hW 2 rfl (k := i2) (by omega) (by omega) dX2_prepare_46 ?_
              refine wI hx hb hK hW 2 rfl (k := i2) (by omega) (by omega) dX2_prepare_47 (fun H locs hW => ?_)
              have hW : Wd D A s [(m0, .inr (2, [.ref mc, .ref mb, .long (ct), .int (ln), .int (fl), .ref mv, .ref aw, .ref an])), (mc, .inl (cy 0, 8, .inl (apG ch 0 stA 8))), (mb, .inl (cy 0, 16, .inl (upd bl i2 (bl i2))))] H locs := hW
              rw [show (upd bl i2 (bl i2)) = (bl) from upd_self bl i2] at hW
              have hW : Wd D A s [(m0, .inr (2, [.ref mc, .ref mb, .long (ct), .int (ln), .int (fl), .ref mv, .ref aw, .ref an])), (mc, .inl (cy 0, 8, .inl (apG ch 0 stA 8))), (mb, .inl (cy 0, 16, .inl (bl)))] H locs := hW
              refine lv_iinc (v := nI (i2 + 1)) (lv' := [(7, .int (nI (i2 + 1))), (0, .ref m0), (1, .ref t.1), (2, .ref mb), (3, .long (ct2)), (5, .int (ln2)), (6, .int (fl2))]) hx hb dX2_prepare_48 hl (k := 6) rfl (nI_1 _) (by decide) rfl (fun ls hl => ?_)
              refine lv_goto (tgt := 30) hx hb dX2_prepare_51 (by decide) ?_
              exact ih (i2 + 1) (by omega) (by omega) _ _ hW _ (lv_sub hl [1, 2, 3, 4, 5, 6, 0] rfl)
        exact loop30 _ 0 (Nat.lt_succ_self _) (by omega) _ _ hW _ (lv_sub hl [1, 2, 3, 4, 5, 6, 0] rfl)
      · skip
        refine lv_aload_n hx hb dX2_prepare_10 rfl (lv_at hl 0 rfl) ?_
        refine va_get (D := D) (ci := 2) (v := .ref mc) (C := RX2) (T := TX2) (N := 8) hx hb hts i_X2_prepare_s_X2 hown hK hW.1 0 rfl rfl 0 (by decide) (hts (.fieldLink RX2 9 "TreeHashes$Mix" "chain" "[I") f_X2_prepare_s_5) (fun _ h9 => h9) rfl dX2_prepare_11 ?_
        refine lv_iload hx hb dX2_prepare_14 (lv_at hl 6 rfl) ?_
        refine lv_aload_n hx hb dX2_prepare_16 rfl (lv_at hl 1 rfl) ?_
        refine lv_iload hx hb dX2_prepare_17 (lv_at hl 6 rfl) ?_
        refine rS (g := stA) hx hb hst.1.2 hW (k := i) (n := 8) (by omega) (by decide) dX2_prepare_19 ?_
        refine wI hx hb hK hW 1 rfl (k := i) (by omega) (by omega) dX2_prepare_20 (fun H locs hW => ?_)
        have hW : Wd D A s [(m0, .inr (2, [.ref mc, .ref mb, .long (ct), .int (ln), .int (fl), .ref mv, .ref aw, .ref an])), (mc, .inl (cy 0, 8, .inl (upd (apG ch 0 stA i) i (stA i)))), (mb, .inl (cy 0, 16, .inl (bl)))] H locs := hW
        rw [show (upd (apG ch 0 stA i) i (stA i)) = (apG ch 0 stA (i + 1)) from by rw [← apG_s ch 0 stA i, Nat.zero_add]] at hW
        have hW : Wd D A s [(m0, .inr (2, [.ref mc, .ref mb, .long (ct), .int (ln), .int (fl), .ref mv, .ref aw, .ref an])), (mc, .inl (cy 0, 8, .inl (apG ch 0 stA (i + 1)))), (mb, .inl (cy 0, 16, .inl (bl)))] H locs := hW
        refine lv_iinc (v := nI (i + 1)) (lv' := [(7, .int (nI (i + 1))), (0, .ref m0), (1, .ref t.1), (2, .ref mb), (3, .long (ct2)), (5, .int (ln2)), (6, .int (fl2))]) hx hb dX2_prepare_21 hl (k := 6) rfl (nI_1 _) (by decide) rfl (fun ls hl => ?_)
        refine lv_goto (tgt := 3) hx hb dX2_prepare_24 (by decide) ?_
        exact ih (i + 1) (by omega) (by omega) _ _ hW _ (lv_sub hl [1, 2, 3, 4, 5, 6, 0] rfl)
  rw [← apG_0 ch 0 stA] at hW
  exact loop3 _ 0 (Nat.lt_succ_self _) (by omega) _ _ hW _ (lv_sub hl [1, 2, 3, 4, 5, 6, 0] rfl)

theorem f_X2_joinBehind_0 : Cond.fieldLink RX2 15 "TreeHashes$Mix" "block" "[I" ∈ wsX2_joinBehind := by decide +kernel
theorem i_X2_joinBehind_X2 : ∀ w ∈ wsX20, w ∈ wsX2_joinBehind := by decide +kernel
theorem f_X2_joinBehind_2 : Cond.fieldLink RX2 18 "TreeHashes$Mix" "v" "[I" ∈ wsX2_joinBehind := by decide +kernel
set_option maxHeartbeats 4000000 in
set_option maxRecDepth 100000 in
theorem c_X2_joinBehind (l : Launch) (D : va_G) (cy : Nat → ClassId) (t : Nat × Nat) (m0 : Nat) (mc : Nat) (mb : Nat) (mv : Nat) (aw : Nat) (an : Nat) (ct : Int64) (ln : Int32) (fl : Int32) (ch : Nat → Int32) (bl : Nat → Int32) (v : Nat → Int32) (lc : Nat) (nl : Nat) (lf : Nat → Int32) (k0 : Nat) (kc : Nat) (kf : Nat → Int32) (bs : Int32) (hk : k0 + 8 ≤ nl) (hn : nl < 2 ^ 31) (sz : Nat) : Met l yX2_joinBehind wsX2_joinBehind ({ frames := 1, cells := 0, slots := 0, locals := 27 }) (PcW D cy t [(m0, .inr (2, [.ref mc, .ref mb, .long (ct), .int (ln), .int (fl), .ref mv, .ref aw, .ref an])), (mc, .inl (cy 0, 8, .inl (ch))), (mb, .inl (cy 0, 16, .inl (bl))), (mv, .inl (cy 0, 16, .inl (v))), (lc, .inl (cy 0, nl, .inl (lf))), (kc, .inl (cy 0, 8, .inl (kf)))] [.ref m0, .ref lc, .int (nI (k0)), .ref kc, .int (bs)] sz) (QvA D cy (fun u : Unit => True) (fun u : Unit => [(m0, .inr (2, [.ref mc, .ref mb, .long (lN 0), .int (nI (64)), .int (bs + (nI (4))), .ref mv, .ref aw, .ref an])), (mc, .inl (cy 0, 8, .inl (kf))), (mb, .inl (cy 0, 16, .inl (jn (fun k => lf (k0 + k)) v))), (mv, .inl (cy 0, 16, .inl (v))), (lc, .inl (cy 0, nl, .inl (lf))), (kc, .inl (cy 0, 8, .inl (kf)))]) (va_A [(m0, .inr (2, [.ref mc, .ref mb, .long (ct), .int (ln), .int (fl), .ref mv, .ref aw, .ref an])), (mc, .inl (cy 0, 8, .inl (ch))), (mb, .inl (cy 0, 16, .inl (bl))), (mv, .inl (cy 0, 16, .inl (v))), (lc, .inl (cy 0, nl, .inl (lf))), (kc, .inl (cy 0, 8, .inl (kf)))] sz)) 0 0 (va_A [(m0, .inr (2, [.ref mc, .ref mb, .long (ct), .int (ln), .int (fl), .ref mv, .ref aw, .ref an])), (mc, .inl (cy 0, 8, .inl (ch))), (mb, .inl (cy 0, 16, .inl (bl))), (mv, .inl (cy 0, 16, .inl (v))), (lc, .inl (cy 0, nl, .inl (lf))), (kc, .inl (cy 0, 8, .inl (kf)))] sz) := by
  refine M_ofW (cc := cX2_joinBehind) (maxL := 6) (ret := none) (by decide) rfl (Nat.le_of_ble_eq_true rfl) ?_
  intro p e s m below meth c A ls args Q hQ S0 hr hlocks hnm hK hst hA hW hl
  have hx := S0.1; have hb := S0.2.1; have hml := S0.2.2.1; have hown := S0.2.2.2.1; have hts := S0.2.2.2.2
  have hl : lv_has ls 6 [(0, .ref m0), (1, .ref lc), (2, .int (nI (k0))), (3, .ref kc), (4, .int (bs))] := hl
  refine lv_iconst (v := nI (0)) hx hb dX2_joinBehind_0 (by decide) ?_
  refine lv_istore (lv' := [(5, .int (nI (0))), (0, .ref m0), (1, .ref lc), (2, .int (nI (k0))), (3, .ref kc), (4, .int (bs))]) hx hb dX2_joinBehind_1 hl (by decide) rfl (fun ls hl => ?_)
  have loop3 : ∀ (nF : Nat) (i : Nat), 8 - i < nF → (i ≤ 8) → ∀ (H : Heap) (locs : List Loc), Wd D A s [(m0, .inr (2, [.ref mc, .ref mb, .long (ct), .int (ln), .int (fl), .ref mv, .ref aw, .ref an])), (mc, .inl (cy 0, 8, .inl (ch))), (mb, .inl (cy 0, 16, .inl (jnI bl (fun k => lf (k0 + k)) v i))), (mv, .inl (cy 0, 16, .inl (v))), (lc, .inl (cy 0, nl, .inl (lf))), (kc, .inl (cy 0, 8, .inl (kf)))] H locs → ∀ ls : Array Slot, lv_has ls 6 [(0, .ref m0), (1, .ref lc), (2, .int (nI (k0))), (3, .ref kc), (4, .int (bs)), (5, .int (nI (i)))] → W p l e ({ frames := 1, cells := 0, slots := 0, locals := 27 }) s m args below meth c H locs 0 0 Q (F0 m 3 ls []) := by
    intro nF
    induction nF with
    | zero => intro i hf; exact absurd hf (Nat.not_lt_zero _)
    | succ nF ih =>
      intro i hf hi H locs hW ls hl
      refine lv_iload hx hb dX2_joinBehind_3 (lv_at hl 5 rfl) ?_
      refine lv_bipush (v := nI (8)) hx hb dX2_joinBehind_5 (by decide) ?_
      refine iGe (a := i) (b := 8) (tgt := 46) hx hb dX2_joinBehind_7 (by decide) (by omega) (by omega) (fun h7 => ?_) (fun h7 => ?_)
      · skip
        have e9 : i = 8 := by omega
        try rw [e9] at hW
        have hW := Wd.ext hW 2 rfl (jn (fun k => lf (k0 + k)) v) jnI_8
        refine lv_aload_n hx hb dX2_joinBehind_46 rfl (lv_at hl 0 rfl) ?_
        refine lv_aload_n hx hb dX2_joinBehind_47 rfl (lv_at hl 3 rfl) ?_
        refine lv_aload_n hx hb dX2_joinBehind_48 rfl (lv_at hl 0 rfl) ?_
        refine va_get (D := D) (ci := 2) (v := .ref mb) (C := RX2) (T := TX2) (N := 8) hx hb hts i_X2_joinBehind_X2 hown hK hW.1 0 rfl rfl 1 (by decide) (hts (.fieldLink RX2 15 "TreeHashes$Mix" "block" "[I") f_X2_joinBehind_0) (fun _ h9 => h9) rfl dX2_joinBehind_49 ?_
        refine lv_lconst (v := lN 0) hx hb dX2_joinBehind_52 (by decide) ?_
        refine lv_bipush (v := nI (64)) hx hb dX2_joinBehind_53 (by decide) ?_
        refine lv_iload hx hb dX2_joinBehind_55 (lv_at hl 4 rfl) ?_
        refine lv_iconst (v := nI (4)) hx hb dX2_joinBehind_57 (by decide) ?_
        refine lv_iadd hx hb dX2_joinBehind_58 ?_
        refine kVv (As := [.ref kc, .ref mb, .long (lN 0), .int (nI (64)), .int (bs + (nI (4)))]) (rest := []) S0 hK hst hA hW [0, 1, 2, 5] (fun sz => c_X2_prepare_b l D cy t m0 mc mb mv aw an ct ln fl ch (jn (fun k => lf (k0 + k)) v) kc kf (lN 0) (nI (64)) (bs + (nI (4)))  sz) rfl (by decide) (cwV 5 hts gX2_joinBehind_X2_prepare rfl rfl rfl (by decide +kernel) ⟨Nat.le_of_ble_eq_true rfl, Nat.le_of_ble_eq_true rfl⟩) (fun _ => rfl) 0 2 rfl rfl rfl hl.1 rfl (Nat.le_of_ble_eq_true rfl) dX2_joinBehind_59 ⟨Nat.le_of_ble_eq_true rfl, Nat.le_of_ble_eq_true rfl⟩ (fun u59 H locs p59 hW => ?_)
        have hW : Wd D A s [(m0, .inr (2, [.ref mc, .ref mb, .long ((lN 0)), .int ((nI (64))), .int ((bs + (nI (4)))), .ref mv, .ref aw, .ref an])), (mc, .inl (cy 0, 8, .inl (kf))), (mb, .inl (cy 0, 16, .inl ((jn (fun k => lf (k0 + k)) v)))), (mv, .inl (cy 0, 16, .inl (v))), (lc, .inl (cy 0, nl, .inl (lf))), (kc, .inl (cy 0, 8, .inl (kf)))] H locs := hW
        exact eV hQ hx hb hr hlocks hK hW () (trivial) (rfl) dX2_joinBehind_62
      · skip
        refine lv_aload_n hx hb dX2_joinBehind_10 rfl (lv_at hl 0 rfl) ?_
        refine va_get (D := D) (ci := 2) (v := .ref mb) (C := RX2) (T := TX2) (N := 8) hx hb hts i_X2_joinBehind_X2 hown hK hW.1 0 rfl rfl 1 (by decide) (hts (.fieldLink RX2 15 "TreeHashes$Mix" "block" "[I") f_X2_joinBehind_0) (fun _ h9 => h9) rfl dX2_joinBehind_11 ?_
        refine lv_iload hx hb dX2_joinBehind_14 (lv_at hl 5 rfl) ?_
        refine lv_aload_n hx hb dX2_joinBehind_16 rfl (lv_at hl 1 rfl) ?_
        refine lv_iload_n hx hb dX2_joinBehind_17 rfl (lv_at hl 2 rfl) ?_
        refine lv_iload hx hb dX2_joinBehind_18 (lv_at hl 5 rfl) ?_
        refine lv_iadd hx hb dX2_joinBehind_20 ?_
        refine tI (nI_add _ _) ?_
        refine rI hx hb hK hW 4 rfl (k := k0 + i) (by omega) (by omega) dX2_joinBehind_21 ?_
        refine wI hx hb hK hW 2 rfl (k := i) (by omega) (by omega) dX2_joinBehind_22 (fun H locs hW => ?_)
        have hW : Wd D A s [(m0, .inr (2, [.ref mc, .ref mb, .long (ct), .int (ln), .int (fl), .ref mv, .ref aw, .ref an])), (mc, .inl (cy 0, 8, .inl (ch))), (mb, .inl (cy 0, 16, .inl (upd (jnI bl (fun k => lf (k0 + k)) v i) i (lf (k0 + i))))), (mv, .inl (cy 0, 16, .inl (v))), (lc, .inl (cy 0, nl, .inl (lf))), (kc, .inl (cy 0, 8, .inl (kf)))] H locs := hW
        refine lv_aload_n hx hb dX2_joinBehind_23 rfl (lv_at hl 0 rfl) ?_
        refine va_get (D := D) (ci := 2) (v := .ref mb) (C := RX2) (T := TX2) (N := 8) hx hb hts i_X2_joinBehind_X2 hown hK hW.1 0 rfl rfl 1 (by decide) (hts (.fieldLink RX2 15 "TreeHashes$Mix" "block" "[I") f_X2_joinBehind_0) (fun _ h9 => h9) rfl dX2_joinBehind_24 ?_
        refine lv_bipush (v := nI (8)) hx hb dX2_joinBehind_27 (by decide) ?_
        refine lv_iload hx hb dX2_joinBehind_29 (lv_at hl 5 rfl) ?_
        refine lv_iadd hx hb dX2_joinBehind_31 ?_
        refine tI (nI_add _ _) ?_
        refine lv_aload_n hx hb dX2_joinBehind_32 rfl (lv_at hl 0 rfl) ?_
        refine va_get (D := D) (ci := 2) (v := .ref mv) (C := RX2) (T := TX2) (N := 8) hx hb hts i_X2_joinBehind_X2 hown hK hW.1 0 rfl rfl 5 (by decide) (hts (.fieldLink RX2 18 "TreeHashes$Mix" "v" "[I") f_X2_joinBehind_2) (fun _ h9 => h9) rfl dX2_joinBehind_33 ?_
        refine lv_iload hx hb dX2_joinBehind_36 (lv_at hl 5 rfl) ?_
        refine rI hx hb hK hW 3 rfl (k := i) (by omega) (by omega) dX2_joinBehind_38 ?_
        refine wI hx hb hK hW 2 rfl (k := 8 + i) (by omega) (by omega) dX2_joinBehind_39 (fun H locs hW => ?_)
        have hW : Wd D A s [(m0, .inr (2, [.ref mc, .ref mb, .long (ct), .int (ln), .int (fl), .ref mv, .ref aw, .ref an])), (mc, .inl (cy 0, 8, .inl (ch))), (mb, .inl (cy 0, 16, .inl (upd (upd (jnI bl (fun k => lf (k0 + k)) v i) i (lf (k0 + i))) (8 + i) (v i)))), (mv, .inl (cy 0, 16, .inl (v))), (lc, .inl (cy 0, nl, .inl (lf))), (kc, .inl (cy 0, 8, .inl (kf)))] H locs := hW
        rw [show (upd (upd (jnI bl (fun k => lf (k0 + k)) v i) i (lf (k0 + i))) (8 + i) (v i)) = (jnI bl (fun k => lf (k0 + k)) v (i + 1)) from jnI_s bl (fun k => lf (k0 + k)) v (by omega)] at hW
        have hW : Wd D A s [(m0, .inr (2, [.ref mc, .ref mb, .long (ct), .int (ln), .int (fl), .ref mv, .ref aw, .ref an])), (mc, .inl (cy 0, 8, .inl (ch))), (mb, .inl (cy 0, 16, .inl (jnI bl (fun k => lf (k0 + k)) v (i + 1)))), (mv, .inl (cy 0, 16, .inl (v))), (lc, .inl (cy 0, nl, .inl (lf))), (kc, .inl (cy 0, 8, .inl (kf)))] H locs := hW
        refine lv_iinc (v := nI (i + 1)) (lv' := [(5, .int (nI (i + 1))), (0, .ref m0), (1, .ref lc), (2, .int (nI (k0))), (3, .ref kc), (4, .int (bs))]) hx hb dX2_joinBehind_40 hl (k := 5) rfl (nI_1 _) (by decide) rfl (fun ls hl => ?_)
        refine lv_goto (tgt := 3) hx hb dX2_joinBehind_43 (by decide) ?_
        exact ih (i + 1) (by omega) (by omega) _ _ hW _ (lv_sub hl [1, 2, 3, 4, 5, 0] rfl)
  rw [← jnI_0 bl (fun k => lf (k0 + k)) v] at hW
  exact loop3 _ 0 (Nat.lt_succ_self _) (by omega) _ _ hW _ (lv_sub hl [1, 2, 3, 4, 5, 0] rfl)

theorem f_X2_joinBehind_s_0 : Cond.fieldLink RX2 15 "TreeHashes$Mix" "block" "[I" ∈ wsX2_joinBehind := by decide +kernel
theorem i_X2_joinBehind_s_X2 : ∀ w ∈ wsX20, w ∈ wsX2_joinBehind := by decide +kernel
theorem f_X2_joinBehind_s_2 : Cond.fieldLink RX2 18 "TreeHashes$Mix" "v" "[I" ∈ wsX2_joinBehind := by decide +kernel
set_option maxHeartbeats 4000000 in
set_option maxRecDepth 100000 in
theorem c_X2_joinBehind_s (l : Launch) (D : va_G) (cy : Nat → ClassId) (t : Nat × Nat) (m0 : Nat) (mc : Nat) (mb : Nat) (mv : Nat) (aw : Nat) (an : Nat) (ct : Int64) (ln : Int32) (fl : Int32) (ch : Nat → Int32) (bl : Nat → Int32) (v : Nat → Int32) (lc : Nat) (nl : Nat) (lf : Nat → Int32) (k0 : Nat) (bs : Int32) (hk : k0 + 8 ≤ nl) (hn : nl < 2 ^ 31) (sz : Nat) : Met l yX2_joinBehind wsX2_joinBehind ({ frames := 1, cells := 0, slots := 0, locals := 27 }) (PcW D cy t [(m0, .inr (2, [.ref mc, .ref mb, .long (ct), .int (ln), .int (fl), .ref mv, .ref aw, .ref an])), (mc, .inl (cy 0, 8, .inl (ch))), (mb, .inl (cy 0, 16, .inl (bl))), (mv, .inl (cy 0, 16, .inl (v))), (lc, .inl (cy 0, nl, .inl (lf)))] [.ref m0, .ref lc, .int (nI (k0)), .ref t.1, .int (bs)] sz) (QvA D cy (fun u : Unit => True) (fun u : Unit => [(m0, .inr (2, [.ref mc, .ref mb, .long (lN 0), .int (nI (64)), .int (bs + (nI (4))), .ref mv, .ref aw, .ref an])), (mc, .inl (cy 0, 8, .inl (stA))), (mb, .inl (cy 0, 16, .inl (jn (fun k => lf (k0 + k)) v))), (mv, .inl (cy 0, 16, .inl (v))), (lc, .inl (cy 0, nl, .inl (lf)))]) (va_A [(m0, .inr (2, [.ref mc, .ref mb, .long (ct), .int (ln), .int (fl), .ref mv, .ref aw, .ref an])), (mc, .inl (cy 0, 8, .inl (ch))), (mb, .inl (cy 0, 16, .inl (bl))), (mv, .inl (cy 0, 16, .inl (v))), (lc, .inl (cy 0, nl, .inl (lf)))] sz)) 0 0 (va_A [(m0, .inr (2, [.ref mc, .ref mb, .long (ct), .int (ln), .int (fl), .ref mv, .ref aw, .ref an])), (mc, .inl (cy 0, 8, .inl (ch))), (mb, .inl (cy 0, 16, .inl (bl))), (mv, .inl (cy 0, 16, .inl (v))), (lc, .inl (cy 0, nl, .inl (lf)))] sz) := by
  refine M_ofW (cc := cX2_joinBehind) (maxL := 6) (ret := none) (by decide) rfl (Nat.le_of_ble_eq_true rfl) ?_
  intro p e s m below meth c A ls args Q hQ S0 hr hlocks hnm hK hst hA hW hl
  have hx := S0.1; have hb := S0.2.1; have hml := S0.2.2.1; have hown := S0.2.2.2.1; have hts := S0.2.2.2.2
  have hl : lv_has ls 6 [(0, .ref m0), (1, .ref lc), (2, .int (nI (k0))), (3, .ref t.1), (4, .int (bs))] := hl
  refine lv_iconst (v := nI (0)) hx hb dX2_joinBehind_0 (by decide) ?_
  refine lv_istore (lv' := [(5, .int (nI (0))), (0, .ref m0), (1, .ref lc), (2, .int (nI (k0))), (3, .ref t.1), (4, .int (bs))]) hx hb dX2_joinBehind_1 hl (by decide) rfl (fun ls hl => ?_)
  have loop3 : ∀ (nF : Nat) (i : Nat), 8 - i < nF → (i ≤ 8) → ∀ (H : Heap) (locs : List Loc), Wd D A s [(m0, .inr (2, [.ref mc, .ref mb, .long (ct), .int (ln), .int (fl), .ref mv, .ref aw, .ref an])), (mc, .inl (cy 0, 8, .inl (ch))), (mb, .inl (cy 0, 16, .inl (jnI bl (fun k => lf (k0 + k)) v i))), (mv, .inl (cy 0, 16, .inl (v))), (lc, .inl (cy 0, nl, .inl (lf)))] H locs → ∀ ls : Array Slot, lv_has ls 6 [(0, .ref m0), (1, .ref lc), (2, .int (nI (k0))), (3, .ref t.1), (4, .int (bs)), (5, .int (nI (i)))] → W p l e ({ frames := 1, cells := 0, slots := 0, locals := 27 }) s m args below meth c H locs 0 0 Q (F0 m 3 ls []) := by
    intro nF
    induction nF with
    | zero => intro i hf; exact absurd hf (Nat.not_lt_zero _)
    | succ nF ih =>
      intro i hf hi H locs hW ls hl
      refine lv_iload hx hb dX2_joinBehind_3 (lv_at hl 5 rfl) ?_
      refine lv_bipush (v := nI (8)) hx hb dX2_joinBehind_5 (by decide) ?_
      refine iGe (a := i) (b := 8) (tgt := 46) hx hb dX2_joinBehind_7 (by decide) (by omega) (by omega) (fun h7 => ?_) (fun h7 => ?_)
      · skip
        have e9 : i = 8 := by omega
        try rw [e9] at hW
        have hW := Wd.ext hW 2 rfl (jn (fun k => lf (k0 + k)) v) jnI_8
        refine lv_aload_n hx hb dX2_joinBehind_46 rfl (lv_at hl 0 rfl) ?_
        refine lv_aload_n hx hb dX2_joinBehind_47 rfl (lv_at hl 3 rfl) ?_
        refine lv_aload_n hx hb dX2_joinBehind_48 rfl (lv_at hl 0 rfl) ?_
        refine va_get (D := D) (ci := 2) (v := .ref mb) (C := RX2) (T := TX2) (N := 8) hx hb hts i_X2_joinBehind_s_X2 hown hK hW.1 0 rfl rfl 1 (by decide) (hts (.fieldLink RX2 15 "TreeHashes$Mix" "block" "[I") f_X2_joinBehind_s_0) (fun _ h9 => h9) rfl dX2_joinBehind_49 ?_
        refine lv_lconst (v := lN 0) hx hb dX2_joinBehind_52 (by decide) ?_
        refine lv_bipush (v := nI (64)) hx hb dX2_joinBehind_53 (by decide) ?_
        refine lv_iload hx hb dX2_joinBehind_55 (lv_at hl 4 rfl) ?_
        refine lv_iconst (v := nI (4)) hx hb dX2_joinBehind_57 (by decide) ?_
        refine lv_iadd hx hb dX2_joinBehind_58 ?_
        refine kVv (As := [.ref t.1, .ref mb, .long (lN 0), .int (nI (64)), .int (bs + (nI (4)))]) (rest := []) S0 hK hst hA hW [0, 1, 2] (fun sz => c_X2_prepare_s l D cy t m0 mc mb mv aw an ct ln fl ch (jn (fun k => lf (k0 + k)) v) (lN 0) (nI (64)) (bs + (nI (4)))  sz) rfl (by decide) (cwV 5 hts gX2_joinBehind_X2_prepare rfl rfl rfl (by decide +kernel) ⟨Nat.le_of_ble_eq_true rfl, Nat.le_of_ble_eq_true rfl⟩) (fun _ => rfl) 0 2 rfl rfl rfl hl.1 rfl (Nat.le_of_ble_eq_true rfl) dX2_joinBehind_59 ⟨Nat.le_of_ble_eq_true rfl, Nat.le_of_ble_eq_true rfl⟩ (fun u59 H locs p59 hW => ?_)
        have hW : Wd D A s [(m0, .inr (2, [.ref mc, .ref mb, .long ((lN 0)), .int ((nI (64))), .int ((bs + (nI (4)))), .ref mv, .ref aw, .ref an])), (mc, .inl (cy 0, 8, .inl (stA))), (mb, .inl (cy 0, 16, .inl ((jn (fun k => lf (k0 + k)) v)))), (mv, .inl (cy 0, 16, .inl (v))), (lc, .inl (cy 0, nl, .inl (lf)))] H locs := hW
        exact eV hQ hx hb hr hlocks hK hW () (trivial) (rfl) dX2_joinBehind_62
      · skip
        refine lv_aload_n hx hb dX2_joinBehind_10 rfl (lv_at hl 0 rfl) ?_
        refine va_get (D := D) (ci := 2) (v := .ref mb) (C := RX2) (T := TX2) (N := 8) hx hb hts i_X2_joinBehind_s_X2 hown hK hW.1 0 rfl rfl 1 (by decide) (hts (.fieldLink RX2 15 "TreeHashes$Mix" "block" "[I") f_X2_joinBehind_s_0) (fun _ h9 => h9) rfl dX2_joinBehind_11 ?_
        refine lv_iload hx hb dX2_joinBehind_14 (lv_at hl 5 rfl) ?_
        refine lv_aload_n hx hb dX2_joinBehind_16 rfl (lv_at hl 1 rfl) ?_
        refine lv_iload_n hx hb dX2_joinBehind_17 rfl (lv_at hl 2 rfl) ?_
        refine lv_iload hx hb dX2_joinBehind_18 (lv_at hl 5 rfl) ?_
        refine lv_iadd hx hb dX2_joinBehind_20 ?_
        refine tI (nI_add _ _) ?_
        refine rI hx hb hK hW 4 rfl (k := k0 + i) (by omega) (by omega) dX2_joinBehind_21 ?_
        refine wI hx hb hK hW 2 rfl (k := i) (by omega) (by omega) dX2_joinBehind_22 (fun H locs hW => ?_)
        have hW : Wd D A s [(m0, .inr (2, [.ref mc, .ref mb, .long (ct), .int (ln), .int (fl), .ref mv, .ref aw, .ref an])), (mc, .inl (cy 0, 8, .inl (ch))), (mb, .inl (cy 0, 16, .inl (upd (jnI bl (fun k => lf (k0 + k)) v i) i (lf (k0 + i))))), (mv, .inl (cy 0, 16, .inl (v))), (lc, .inl (cy 0, nl, .inl (lf)))] H locs := hW
        refine lv_aload_n hx hb dX2_joinBehind_23 rfl (lv_at hl 0 rfl) ?_
        refine va_get (D := D) (ci := 2) (v := .ref mb) (C := RX2) (T := TX2) (N := 8) hx hb hts i_X2_joinBehind_s_X2 hown hK hW.1 0 rfl rfl 1 (by decide) (hts (.fieldLink RX2 15 "TreeHashes$Mix" "block" "[I") f_X2_joinBehind_s_0) (fun _ h9 => h9) rfl dX2_joinBehind_24 ?_
        refine lv_bipush (v := nI (8)) hx hb dX2_joinBehind_27 (by decide) ?_
        refine lv_iload hx hb dX2_joinBehind_29 (lv_at hl 5 rfl) ?_
        refine lv_iadd hx hb dX2_joinBehind_31 ?_
        refine tI (nI_add _ _) ?_
        refine lv_aload_n hx hb dX2_joinBehind_32 rfl (lv_at hl 0 rfl) ?_
        refine va_get (D := D) (ci := 2) (v := .ref mv) (C := RX2) (T := TX2) (N := 8) hx hb hts i_X2_joinBehind_s_X2 hown hK hW.1 0 rfl rfl 5 (by decide) (hts (.fieldLink RX2 18 "TreeHashes$Mix" "v" "[I") f_X2_joinBehind_s_2) (fun _ h9 => h9) rfl dX2_joinBehind_33 ?_
        refine lv_iload hx hb dX2_joinBehind_36 (lv_at hl 5 rfl) ?_
        refine rI hx hb hK hW 3 rfl (k := i) (by omega) (by omega) dX2_joinBehind_38 ?_
        refine wI hx hb hK hW 2 rfl (k := 8 + i) (by omega) (by omega) dX2_joinBehind_39 (fun H locs hW => ?_)
        have hW : Wd D A s [(m0, .inr (2, [.ref mc, .ref mb, .long (ct), .int (ln), .int (fl), .ref mv, .ref aw, .ref an])), (mc, .inl (cy 0, 8, .inl (ch))), (mb, .inl (cy 0, 16, .inl (upd (upd (jnI bl (fun k => lf (k0 + k)) v i) i (lf (k0 + i))) (8 + i) (v i)))), (mv, .inl (cy 0, 16, .inl (v))), (lc, .inl (cy 0, nl, .inl (lf)))] H locs := hW
        rw [show (upd (upd (jnI bl (fun k => lf (k0 + k)) v i) i (lf (k0 + i))) (8 + i) (v i)) = (jnI bl (fun k => lf (k0 + k)) v (i + 1)) from jnI_s bl (fun k => lf (k0 + k)) v (by omega)] at hW
        have hW : Wd D A s [(m0, .inr (2, [.ref mc, .ref mb, .long (ct), .int (ln), .int (fl), .ref mv, .ref aw, .ref an])), (mc, .inl (cy 0, 8, .inl (ch))), (mb, .inl (cy 0, 16, .inl (jnI bl (fun k => lf (k0 + k)) v (i + 1)))), (mv, .inl (cy 0, 16, .inl (v))), (lc, .inl (cy 0, nl, .inl (lf)))] H locs := hW
        refine lv_iinc (v := nI (i + 1)) (lv' := [(5, .int (nI (i + 1))), (0, .ref m0), (1, .ref lc), (2, .int (nI (k0))), (3, .ref t.1), (4, .int (bs))]) hx hb dX2_joinBehind_40 hl (k := 5) rfl (nI_1 _) (by decide) rfl (fun ls hl => ?_)
        refine lv_goto (tgt := 3) hx hb dX2_joinBehind_43 (by decide) ?_
        exact ih (i + 1) (by omega) (by omega) _ _ hW _ (lv_sub hl [1, 2, 3, 4, 5, 0] rfl)
  rw [← jnI_0 bl (fun k => lf (k0 + k)) v] at hW
  exact loop3 _ 0 (Nat.lt_succ_self _) (by omega) _ _ hW _ (lv_sub hl [1, 2, 3, 4, 5, 0] rfl)

theorem f_X2_joinBefore_0 : Cond.fieldLink RX2 15 "TreeHashes$Mix" "block" "[I" ∈ wsX2_joinBefore := by decide +kernel
theorem i_X2_joinBefore_X2 : ∀ w ∈ wsX20, w ∈ wsX2_joinBefore := by decide +kernel
theorem f_X2_joinBefore_2 : Cond.fieldLink RX2 18 "TreeHashes$Mix" "v" "[I" ∈ wsX2_joinBefore := by decide +kernel
set_option maxHeartbeats 4000000 in
set_option maxRecDepth 100000 in
theorem c_X2_joinBefore (l : Launch) (D : va_G) (cy : Nat → ClassId) (t : Nat × Nat) (m0 : Nat) (mc : Nat) (mb : Nat) (mv : Nat) (aw : Nat) (an : Nat) (ct : Int64) (ln : Int32) (fl : Int32) (ch : Nat → Int32) (bl : Nat → Int32) (v : Nat → Int32) (lc : Nat) (nl : Nat) (lf : Nat → Int32) (k0 : Nat) (kc : Nat) (kf : Nat → Int32) (bs : Int32) (hk : k0 + 8 ≤ nl) (hn : nl < 2 ^ 31) (sz : Nat) : Met l yX2_joinBefore wsX2_joinBefore ({ frames := 1, cells := 0, slots := 0, locals := 27 }) (PcW D cy t [(m0, .inr (2, [.ref mc, .ref mb, .long (ct), .int (ln), .int (fl), .ref mv, .ref aw, .ref an])), (mc, .inl (cy 0, 8, .inl (ch))), (mb, .inl (cy 0, 16, .inl (bl))), (mv, .inl (cy 0, 16, .inl (v))), (lc, .inl (cy 0, nl, .inl (lf))), (kc, .inl (cy 0, 8, .inl (kf)))] [.ref m0, .ref lc, .int (nI (k0)), .ref kc, .int (bs)] sz) (QvA D cy (fun u : Unit => True) (fun u : Unit => [(m0, .inr (2, [.ref mc, .ref mb, .long (lN 0), .int (nI (64)), .int (bs + (nI (4))), .ref mv, .ref aw, .ref an])), (mc, .inl (cy 0, 8, .inl (kf))), (mb, .inl (cy 0, 16, .inl (jn v (fun k => lf (k0 + k))))), (mv, .inl (cy 0, 16, .inl (v))), (lc, .inl (cy 0, nl, .inl (lf))), (kc, .inl (cy 0, 8, .inl (kf)))]) (va_A [(m0, .inr (2, [.ref mc, .ref mb, .long (ct), .int (ln), .int (fl), .ref mv, .ref aw, .ref an])), (mc, .inl (cy 0, 8, .inl (ch))), (mb, .inl (cy 0, 16, .inl (bl))), (mv, .inl (cy 0, 16, .inl (v))), (lc, .inl (cy 0, nl, .inl (lf))), (kc, .inl (cy 0, 8, .inl (kf)))] sz)) 0 0 (va_A [(m0, .inr (2, [.ref mc, .ref mb, .long (ct), .int (ln), .int (fl), .ref mv, .ref aw, .ref an])), (mc, .inl (cy 0, 8, .inl (ch))), (mb, .inl (cy 0, 16, .inl (bl))), (mv, .inl (cy 0, 16, .inl (v))), (lc, .inl (cy 0, nl, .inl (lf))), (kc, .inl (cy 0, 8, .inl (kf)))] sz) := by
  refine M_ofW (cc := cX2_joinBefore) (maxL := 6) (ret := none) (by decide) rfl (Nat.le_of_ble_eq_true rfl) ?_
  intro p e s m below meth c A ls args Q hQ S0 hr hlocks hnm hK hst hA hW hl
  have hx := S0.1; have hb := S0.2.1; have hml := S0.2.2.1; have hown := S0.2.2.2.1; have hts := S0.2.2.2.2
  have hl : lv_has ls 6 [(0, .ref m0), (1, .ref lc), (2, .int (nI (k0))), (3, .ref kc), (4, .int (bs))] := hl
  refine lv_iconst (v := nI (0)) hx hb dX2_joinBefore_0 (by decide) ?_
  refine lv_istore (lv' := [(5, .int (nI (0))), (0, .ref m0), (1, .ref lc), (2, .int (nI (k0))), (3, .ref kc), (4, .int (bs))]) hx hb dX2_joinBefore_1 hl (by decide) rfl (fun ls hl => ?_)
  have loop3 : ∀ (nF : Nat) (i : Nat), 8 - i < nF → (i ≤ 8) → ∀ (H : Heap) (locs : List Loc), Wd D A s [(m0, .inr (2, [.ref mc, .ref mb, .long (ct), .int (ln), .int (fl), .ref mv, .ref aw, .ref an])), (mc, .inl (cy 0, 8, .inl (ch))), (mb, .inl (cy 0, 16, .inl (jnI bl v (fun k => lf (k0 + k)) i))), (mv, .inl (cy 0, 16, .inl (v))), (lc, .inl (cy 0, nl, .inl (lf))), (kc, .inl (cy 0, 8, .inl (kf)))] H locs → ∀ ls : Array Slot, lv_has ls 6 [(0, .ref m0), (1, .ref lc), (2, .int (nI (k0))), (3, .ref kc), (4, .int (bs)), (5, .int (nI (i)))] → W p l e ({ frames := 1, cells := 0, slots := 0, locals := 27 }) s m args below meth c H locs 0 0 Q (F0 m 3 ls []) := by
    intro nF
    induction nF with
    | zero => intro i hf; exact absurd hf (Nat.not_lt_zero _)
    | succ nF ih =>
      intro i hf hi H locs hW ls hl
      refine lv_iload hx hb dX2_joinBefore_3 (lv_at hl 5 rfl) ?_
      refine lv_bipush (v := nI (8)) hx hb dX2_joinBefore_5 (by decide) ?_
      refine iGe (a := i) (b := 8) (tgt := 46) hx hb dX2_joinBefore_7 (by decide) (by omega) (by omega) (fun h7 => ?_) (fun h7 => ?_)
      · skip
        have e9 : i = 8 := by omega
        try rw [e9] at hW
        have hW := Wd.ext hW 2 rfl (jn v (fun k => lf (k0 + k))) jnI_8
        refine lv_aload_n hx hb dX2_joinBefore_46 rfl (lv_at hl 0 rfl) ?_
        refine lv_aload_n hx hb dX2_joinBefore_47 rfl (lv_at hl 3 rfl) ?_
        refine lv_aload_n hx hb dX2_joinBefore_48 rfl (lv_at hl 0 rfl) ?_
        refine va_get (D := D) (ci := 2) (v := .ref mb) (C := RX2) (T := TX2) (N := 8) hx hb hts i_X2_joinBefore_X2 hown hK hW.1 0 rfl rfl 1 (by decide) (hts (.fieldLink RX2 15 "TreeHashes$Mix" "block" "[I") f_X2_joinBefore_0) (fun _ h9 => h9) rfl dX2_joinBefore_49 ?_
        refine lv_lconst (v := lN 0) hx hb dX2_joinBefore_52 (by decide) ?_
        refine lv_bipush (v := nI (64)) hx hb dX2_joinBefore_53 (by decide) ?_
        refine lv_iload hx hb dX2_joinBefore_55 (lv_at hl 4 rfl) ?_
        refine lv_iconst (v := nI (4)) hx hb dX2_joinBefore_57 (by decide) ?_
        refine lv_iadd hx hb dX2_joinBefore_58 ?_
        refine kVv (As := [.ref kc, .ref mb, .long (lN 0), .int (nI (64)), .int (bs + (nI (4)))]) (rest := []) S0 hK hst hA hW [0, 1, 2, 5] (fun sz => c_X2_prepare_b l D cy t m0 mc mb mv aw an ct ln fl ch (jn v (fun k => lf (k0 + k))) kc kf (lN 0) (nI (64)) (bs + (nI (4)))  sz) rfl (by decide) (cwV 5 hts gX2_joinBefore_X2_prepare rfl rfl rfl (by decide +kernel) ⟨Nat.le_of_ble_eq_true rfl, Nat.le_of_ble_eq_true rfl⟩) (fun _ => rfl) 0 2 rfl rfl rfl hl.1 rfl (Nat.le_of_ble_eq_true rfl) dX2_joinBefore_59 ⟨Nat.le_of_ble_eq_true rfl, Nat.le_of_ble_eq_true rfl⟩ (fun u59 H locs p59 hW => ?_)
        have hW : Wd D A s [(m0, .inr (2, [.ref mc, .ref mb, .long ((lN 0)), .int ((nI (64))), .int ((bs + (nI (4)))), .ref mv, .ref aw, .ref an])), (mc, .inl (cy 0, 8, .inl (kf))), (mb, .inl (cy 0, 16, .inl ((jn v (fun k => lf (k0 + k)))))), (mv, .inl (cy 0, 16, .inl (v))), (lc, .inl (cy 0, nl, .inl (lf))), (kc, .inl (cy 0, 8, .inl (kf)))] H locs := hW
        exact eV hQ hx hb hr hlocks hK hW () (trivial) (rfl) dX2_joinBefore_62
      · skip
        refine lv_aload_n hx hb dX2_joinBefore_10 rfl (lv_at hl 0 rfl) ?_
        refine va_get (D := D) (ci := 2) (v := .ref mb) (C := RX2) (T := TX2) (N := 8) hx hb hts i_X2_joinBefore_X2 hown hK hW.1 0 rfl rfl 1 (by decide) (hts (.fieldLink RX2 15 "TreeHashes$Mix" "block" "[I") f_X2_joinBefore_0) (fun _ h9 => h9) rfl dX2_joinBefore_11 ?_
        refine lv_iload hx hb dX2_joinBefore_14 (lv_at hl 5 rfl) ?_
        refine lv_aload_n hx hb dX2_joinBefore_16 rfl (lv_at hl 0 rfl) ?_
        refine va_get (D := D) (ci := 2) (v := .ref mv) (C := RX2) (T := TX2) (N := 8) hx hb hts i_X2_joinBefore_X2 hown hK hW.1 0 rfl rfl 5 (by decide) (hts (.fieldLink RX2 18 "TreeHashes$Mix" "v" "[I") f_X2_joinBefore_2) (fun _ h9 => h9) rfl dX2_joinBefore_17 ?_
        refine lv_iload hx hb dX2_joinBefore_20 (lv_at hl 5 rfl) ?_
        refine rI hx hb hK hW 3 rfl (k := i) (by omega) (by omega) dX2_joinBefore_22 ?_
        refine wI hx hb hK hW 2 rfl (k := i) (by omega) (by omega) dX2_joinBefore_23 (fun H locs hW => ?_)
        have hW : Wd D A s [(m0, .inr (2, [.ref mc, .ref mb, .long (ct), .int (ln), .int (fl), .ref mv, .ref aw, .ref an])), (mc, .inl (cy 0, 8, .inl (ch))), (mb, .inl (cy 0, 16, .inl (upd (jnI bl v (fun k => lf (k0 + k)) i) i (v i)))), (mv, .inl (cy 0, 16, .inl (v))), (lc, .inl (cy 0, nl, .inl (lf))), (kc, .inl (cy 0, 8, .inl (kf)))] H locs := hW
        refine lv_aload_n hx hb dX2_joinBefore_24 rfl (lv_at hl 0 rfl) ?_
        refine va_get (D := D) (ci := 2) (v := .ref mb) (C := RX2) (T := TX2) (N := 8) hx hb hts i_X2_joinBefore_X2 hown hK hW.1 0 rfl rfl 1 (by decide) (hts (.fieldLink RX2 15 "TreeHashes$Mix" "block" "[I") f_X2_joinBefore_0) (fun _ h9 => h9) rfl dX2_joinBefore_25 ?_
        refine lv_bipush (v := nI (8)) hx hb dX2_joinBefore_28 (by decide) ?_
        refine lv_iload hx hb dX2_joinBefore_30 (lv_at hl 5 rfl) ?_
        refine lv_iadd hx hb dX2_joinBefore_32 ?_
        refine tI (nI_add _ _) ?_
        refine lv_aload_n hx hb dX2_joinBefore_33 rfl (lv_at hl 1 rfl) ?_
        refine lv_iload_n hx hb dX2_joinBefore_34 rfl (lv_at hl 2 rfl) ?_
        refine lv_iload hx hb dX2_joinBefore_35 (lv_at hl 5 rfl) ?_
        refine lv_iadd hx hb dX2_joinBefore_37 ?_
        refine tI (nI_add _ _) ?_
        refine rI hx hb hK hW 4 rfl (k := k0 + i) (by omega) (by omega) dX2_joinBefore_38 ?_
        refine wI hx hb hK hW 2 rfl (k := 8 + i) (by omega) (by omega) dX2_joinBefore_39 (fun H locs hW => ?_)
        have hW : Wd D A s [(m0, .inr (2, [.ref mc, .ref mb, .long (ct), .int (ln), .int (fl), .ref mv, .ref aw, .ref an])), (mc, .inl (cy 0, 8, .inl (ch))), (mb, .inl (cy 0, 16, .inl (upd (upd (jnI bl v (fun k => lf (k0 + k)) i) i (v i)) (8 + i) (lf (k0 + i))))), (mv, .inl (cy 0, 16, .inl (v))), (lc, .inl (cy 0, nl, .inl (lf))), (kc, .inl (cy 0, 8, .inl (kf)))] H locs := hW
        rw [show (upd (upd (jnI bl v (fun k => lf (k0 + k)) i) i (v i)) (8 + i) (lf (k0 + i))) = (jnI bl v (fun k => lf (k0 + k)) (i + 1)) from jnI_s bl v (fun k => lf (k0 + k)) (by omega)] at hW
        have hW : Wd D A s [(m0, .inr (2, [.ref mc, .ref mb, .long (ct), .int (ln), .int (fl), .ref mv, .ref aw, .ref an])), (mc, .inl (cy 0, 8, .inl (ch))), (mb, .inl (cy 0, 16, .inl (jnI bl v (fun k => lf (k0 + k)) (i + 1)))), (mv, .inl (cy 0, 16, .inl (v))), (lc, .inl (cy 0, nl, .inl (lf))), (kc, .inl (cy 0, 8, .inl (kf)))] H locs := hW
        refine lv_iinc (v := nI (i + 1)) (lv' := [(5, .int (nI (i + 1))), (0, .ref m0), (1, .ref lc), (2, .int (nI (k0))), (3, .ref kc), (4, .int (bs))]) hx hb dX2_joinBefore_40 hl (k := 5) rfl (nI_1 _) (by decide) rfl (fun ls hl => ?_)
        refine lv_goto (tgt := 3) hx hb dX2_joinBefore_43 (by decide) ?_
        exact ih (i + 1) (by omega) (by omega) _ _ hW _ (lv_sub hl [1, 2, 3, 4, 5, 0] rfl)
  rw [← jnI_0 bl v (fun k => lf (k0 + k))] at hW
  exact loop3 _ 0 (Nat.lt_succ_self _) (by omega) _ _ hW _ (lv_sub hl [1, 2, 3, 4, 5, 0] rfl)

theorem f_X2_joinBefore_s_0 : Cond.fieldLink RX2 15 "TreeHashes$Mix" "block" "[I" ∈ wsX2_joinBefore := by decide +kernel
theorem i_X2_joinBefore_s_X2 : ∀ w ∈ wsX20, w ∈ wsX2_joinBefore := by decide +kernel
theorem f_X2_joinBefore_s_2 : Cond.fieldLink RX2 18 "TreeHashes$Mix" "v" "[I" ∈ wsX2_joinBefore := by decide +kernel
set_option maxHeartbeats 4000000 in
set_option maxRecDepth 100000 in
theorem c_X2_joinBefore_s (l : Launch) (D : va_G) (cy : Nat → ClassId) (t : Nat × Nat) (m0 : Nat) (mc : Nat) (mb : Nat) (mv : Nat) (aw : Nat) (an : Nat) (ct : Int64) (ln : Int32) (fl : Int32) (ch : Nat → Int32) (bl : Nat → Int32) (v : Nat → Int32) (lc : Nat) (nl : Nat) (lf : Nat → Int32) (k0 : Nat) (bs : Int32) (hk : k0 + 8 ≤ nl) (hn : nl < 2 ^ 31) (sz : Nat) : Met l yX2_joinBefore wsX2_joinBefore ({ frames := 1, cells := 0, slots := 0, locals := 27 }) (PcW D cy t [(m0, .inr (2, [.ref mc, .ref mb, .long (ct), .int (ln), .int (fl), .ref mv, .ref aw, .ref an])), (mc, .inl (cy 0, 8, .inl (ch))), (mb, .inl (cy 0, 16, .inl (bl))), (mv, .inl (cy 0, 16, .inl (v))), (lc, .inl (cy 0, nl, .inl (lf)))] [.ref m0, .ref lc, .int (nI (k0)), .ref t.1, .int (bs)] sz) (QvA D cy (fun u : Unit => True) (fun u : Unit => [(m0, .inr (2, [.ref mc, .ref mb, .long (lN 0), .int (nI (64)), .int (bs + (nI (4))), .ref mv, .ref aw, .ref an])), (mc, .inl (cy 0, 8, .inl (stA))), (mb, .inl (cy 0, 16, .inl (jn v (fun k => lf (k0 + k))))), (mv, .inl (cy 0, 16, .inl (v))), (lc, .inl (cy 0, nl, .inl (lf)))]) (va_A [(m0, .inr (2, [.ref mc, .ref mb, .long (ct), .int (ln), .int (fl), .ref mv, .ref aw, .ref an])), (mc, .inl (cy 0, 8, .inl (ch))), (mb, .inl (cy 0, 16, .inl (bl))), (mv, .inl (cy 0, 16, .inl (v))), (lc, .inl (cy 0, nl, .inl (lf)))] sz)) 0 0 (va_A [(m0, .inr (2, [.ref mc, .ref mb, .long (ct), .int (ln), .int (fl), .ref mv, .ref aw, .ref an])), (mc, .inl (cy 0, 8, .inl (ch))), (mb, .inl (cy 0, 16, .inl (bl))), (mv, .inl (cy 0, 16, .inl (v))), (lc, .inl (cy 0, nl, .inl (lf)))] sz) := by
  refine M_ofW (cc := cX2_joinBefore) (maxL := 6) (ret := none) (by decide) rfl (Nat.le_of_ble_eq_true rfl) ?_
  intro p e s m below meth c A ls args Q hQ S0 hr hlocks hnm hK hst hA hW hl
  have hx := S0.1; have hb := S0.2.1; have hml := S0.2.2.1; have hown := S0.2.2.2.1; have hts := S0.2.2.2.2
  have hl : lv_has ls 6 [(0, .ref m0), (1, .ref lc), (2, .int (nI (k0))), (3, .ref t.1), (4, .int (bs))] := hl
  refine lv_iconst (v := nI (0)) hx hb dX2_joinBefore_0 (by decide) ?_
  refine lv_istore (lv' := [(5, .int (nI (0))), (0, .ref m0), (1, .ref lc), (2, .int (nI (k0))), (3, .ref t.1), (4, .int (bs))]) hx hb dX2_joinBefore_1 hl (by decide) rfl (fun ls hl => ?_)
  have loop3 : ∀ (nF : Nat) (i : Nat), 8 - i < nF → (i ≤ 8) → ∀ (H : Heap) (locs : List Loc), Wd D A s [(m0, .inr (2, [.ref mc, .ref mb, .long (ct), .int (ln), .int (fl), .ref mv, .ref aw, .ref an])), (mc, .inl (cy 0, 8, .inl (ch))), (mb, .inl (cy 0, 16, .inl (jnI bl v (fun k => lf (k0 + k)) i))), (mv, .inl (cy 0, 16, .inl (v))), (lc, .inl (cy 0, nl, .inl (lf)))] H locs → ∀ ls : Array Slot, lv_has ls 6 [(0, .ref m0), (1, .ref lc), (2, .int (nI (k0))), (3, .ref t.1), (4, .int (bs)), (5, .int (nI (i)))] → W p l e ({ frames := 1, cells := 0, slots := 0, locals := 27 }) s m args below meth c H locs 0 0 Q (F0 m 3 ls []) := by
    intro nF
    induction nF with
    | zero => intro i hf; exact absurd hf (Nat.not_lt_zero _)
    | succ nF ih =>
      intro i hf hi H locs hW ls hl
      refine lv_iload hx hb dX2_joinBefore_3 (lv_at hl 5 rfl) ?_
      refine lv_bipush (v := nI (8)) hx hb dX2_joinBefore_5 (by decide) ?_
      refine iGe (a := i) (b := 8) (tgt := 46) hx hb dX2_joinBefore_7 (by decide) (by omega) (by omega) (fun h7 => ?_) (fun h7 => ?_)
      · skip
        have e9 : i = 8 := by omega
        try rw [e9] at hW
        have hW := Wd.ext hW 2 rfl (jn v (fun k => lf (k0 + k))) jnI_8
        refine lv_aload_n hx hb dX2_joinBefore_46 rfl (lv_at hl 0 rfl) ?_
        refine lv_aload_n hx hb dX2_joinBefore_47 rfl (lv_at hl 3 rfl) ?_
        refine lv_aload_n hx hb dX2_joinBefore_48 rfl (lv_at hl 0 rfl) ?_
        refine va_get (D := D) (ci := 2) (v := .ref mb) (C := RX2) (T := TX2) (N := 8) hx hb hts i_X2_joinBefore_s_X2 hown hK hW.1 0 rfl rfl 1 (by decide) (hts (.fieldLink RX2 15 "TreeHashes$Mix" "block" "[I") f_X2_joinBefore_s_0) (fun _ h9 => h9) rfl dX2_joinBefore_49 ?_
        refine lv_lconst (v := lN 0) hx hb dX2_joinBefore_52 (by decide) ?_
        refine lv_bipush (v := nI (64)) hx hb dX2_joinBefore_53 (by decide) ?_
        refine lv_iload hx hb dX2_joinBefore_55 (lv_at hl 4 rfl) ?_
        refine lv_iconst (v := nI (4)) hx hb dX2_joinBefore_57 (by decide) ?_
        refine lv_iadd hx hb dX2_joinBefore_58 ?_
        refine kVv (As := [.ref t.1, .ref mb, .long (lN 0), .int (nI (64)), .int (bs + (nI (4)))]) (rest := []) S0 hK hst hA hW [0, 1, 2] (fun sz => c_X2_prepare_s l D cy t m0 mc mb mv aw an ct ln fl ch (jn v (fun k => lf (k0 + k))) (lN 0) (nI (64)) (bs + (nI (4)))  sz) rfl (by decide) (cwV 5 hts gX2_joinBefore_X2_prepare rfl rfl rfl (by decide +kernel) ⟨Nat.le_of_ble_eq_true rfl, Nat.le_of_ble_eq_true rfl⟩) (fun _ => rfl) 0 2 rfl rfl rfl hl.1 rfl (Nat.le_of_ble_eq_true rfl) dX2_joinBefore_59 ⟨Nat.le_of_ble_eq_true rfl, Nat.le_of_ble_eq_true rfl⟩ (fun u59 H locs p59 hW => ?_)
        have hW : Wd D A s [(m0, .inr (2, [.ref mc, .ref mb, .long ((lN 0)), .int ((nI (64))), .int ((bs + (nI (4)))), .ref mv, .ref aw, .ref an])), (mc, .inl (cy 0, 8, .inl (stA))), (mb, .inl (cy 0, 16, .inl ((jn v (fun k => lf (k0 + k)))))), (mv, .inl (cy 0, 16, .inl (v))), (lc, .inl (cy 0, nl, .inl (lf)))] H locs := hW
        exact eV hQ hx hb hr hlocks hK hW () (trivial) (rfl) dX2_joinBefore_62
      · skip
        refine lv_aload_n hx hb dX2_joinBefore_10 rfl (lv_at hl 0 rfl) ?_
        refine va_get (D := D) (ci := 2) (v := .ref mb) (C := RX2) (T := TX2) (N := 8) hx hb hts i_X2_joinBefore_s_X2 hown hK hW.1 0 rfl rfl 1 (by decide) (hts (.fieldLink RX2 15 "TreeHashes$Mix" "block" "[I") f_X2_joinBefore_s_0) (fun _ h9 => h9) rfl dX2_joinBefore_11 ?_
        refine lv_iload hx hb dX2_joinBefore_14 (lv_at hl 5 rfl) ?_
        refine lv_aload_n hx hb dX2_joinBefore_16 rfl (lv_at hl 0 rfl) ?_
        refine va_get (D := D) (ci := 2) (v := .ref mv) (C := RX2) (T := TX2) (N := 8) hx hb hts i_X2_joinBefore_s_X2 hown hK hW.1 0 rfl rfl 5 (by decide) (hts (.fieldLink RX2 18 "TreeHashes$Mix" "v" "[I") f_X2_joinBefore_s_2) (fun _ h9 => h9) rfl dX2_joinBefore_17 ?_
        refine lv_iload hx hb dX2_joinBefore_20 (lv_at hl 5 rfl) ?_
        refine rI hx hb hK hW 3 rfl (k := i) (by omega) (by omega) dX2_joinBefore_22 ?_
        refine wI hx hb hK hW 2 rfl (k := i) (by omega) (by omega) dX2_joinBefore_23 (fun H locs hW => ?_)
        have hW : Wd D A s [(m0, .inr (2, [.ref mc, .ref mb, .long (ct), .int (ln), .int (fl), .ref mv, .ref aw, .ref an])), (mc, .inl (cy 0, 8, .inl (ch))), (mb, .inl (cy 0, 16, .inl (upd (jnI bl v (fun k => lf (k0 + k)) i) i (v i)))), (mv, .inl (cy 0, 16, .inl (v))), (lc, .inl (cy 0, nl, .inl (lf)))] H locs := hW
        refine lv_aload_n hx hb dX2_joinBefore_24 rfl (lv_at hl 0 rfl) ?_
        refine va_get (D := D) (ci := 2) (v := .ref mb) (C := RX2) (T := TX2) (N := 8) hx hb hts i_X2_joinBefore_s_X2 hown hK hW.1 0 rfl rfl 1 (by decide) (hts (.fieldLink RX2 15 "TreeHashes$Mix" "block" "[I") f_X2_joinBefore_s_0) (fun _ h9 => h9) rfl dX2_joinBefore_25 ?_
        refine lv_bipush (v := nI (8)) hx hb dX2_joinBefore_28 (by decide) ?_
        refine lv_iload hx hb dX2_joinBefore_30 (lv_at hl 5 rfl) ?_
        refine lv_iadd hx hb dX2_joinBefore_32 ?_
        refine tI (nI_add _ _) ?_
        refine lv_aload_n hx hb dX2_joinBefore_33 rfl (lv_at hl 1 rfl) ?_
        refine lv_iload_n hx hb dX2_joinBefore_34 rfl (lv_at hl 2 rfl) ?_
        refine lv_iload hx hb dX2_joinBefore_35 (lv_at hl 5 rfl) ?_
        refine lv_iadd hx hb dX2_joinBefore_37 ?_
        refine tI (nI_add _ _) ?_
        refine rI hx hb hK hW 4 rfl (k := k0 + i) (by omega) (by omega) dX2_joinBefore_38 ?_
        refine wI hx hb hK hW 2 rfl (k := 8 + i) (by omega) (by omega) dX2_joinBefore_39 (fun H locs hW => ?_)
        have hW : Wd D A s [(m0, .inr (2, [.ref mc, .ref mb, .long (ct), .int (ln), .int (fl), .ref mv, .ref aw, .ref an])), (mc, .inl (cy 0, 8, .inl (ch))), (mb, .inl (cy 0, 16, .inl (upd (upd (jnI bl v (fun k => lf (k0 + k)) i) i (v i)) (8 + i) (lf (k0 + i))))), (mv, .inl (cy 0, 16, .inl (v))), (lc, .inl (cy 0, nl, .inl (lf)))] H locs := hW
        rw [show (upd (upd (jnI bl v (fun k => lf (k0 + k)) i) i (v i)) (8 + i) (lf (k0 + i))) = (jnI bl v (fun k => lf (k0 + k)) (i + 1)) from jnI_s bl v (fun k => lf (k0 + k)) (by omega)] at hW
        have hW : Wd D A s [(m0, .inr (2, [.ref mc, .ref mb, .long (ct), .int (ln), .int (fl), .ref mv, .ref aw, .ref an])), (mc, .inl (cy 0, 8, .inl (ch))), (mb, .inl (cy 0, 16, .inl (jnI bl v (fun k => lf (k0 + k)) (i + 1)))), (mv, .inl (cy 0, 16, .inl (v))), (lc, .inl (cy 0, nl, .inl (lf)))] H locs := hW
        refine lv_iinc (v := nI (i + 1)) (lv' := [(5, .int (nI (i + 1))), (0, .ref m0), (1, .ref lc), (2, .int (nI (k0))), (3, .ref t.1), (4, .int (bs))]) hx hb dX2_joinBefore_40 hl (k := 5) rfl (nI_1 _) (by decide) rfl (fun ls hl => ?_)
        refine lv_goto (tgt := 3) hx hb dX2_joinBefore_43 (by decide) ?_
        exact ih (i + 1) (by omega) (by omega) _ _ hW _ (lv_sub hl [1, 2, 3, 4, 5, 0] rfl)
  rw [← jnI_0 bl v (fun k => lf (k0 + k))] at hW
  exact loop3 _ 0 (Nat.lt_succ_self _) (by omega) _ _ hW _ (lv_sub hl [1, 2, 3, 4, 5, 0] rfl)

theorem f_X2_makeRoot_0 : Cond.fieldLink RX2 35 "TreeHashes$Mix" "flags" "I" ∈ wsX2_makeRoot := by decide +kernel
theorem i_X2_makeRoot_X2 : ∀ w ∈ wsX20, w ∈ wsX2_makeRoot := by decide +kernel
set_option maxHeartbeats 4000000 in
set_option maxRecDepth 100000 in
theorem c_X2_makeRoot (l : Launch) (D : va_G) (cy : Nat → ClassId) (t : Nat × Nat) (m0 : Nat) (mc : Nat) (mb : Nat) (mv : Nat) (aw : Nat) (an : Nat) (ct : Int64) (ln : Int32) (fl : Int32)  (sz : Nat) : Met l yX2_makeRoot wsX2_makeRoot ({ frames := 0, cells := 0, slots := 0, locals := 0 }) (PcW D cy t [(m0, .inr (2, [.ref mc, .ref mb, .long (ct), .int (ln), .int (fl), .ref mv, .ref aw, .ref an]))] [.ref m0] sz) (QvA D cy (fun u : Unit => True) (fun u : Unit => [(m0, .inr (2, [.ref mc, .ref mb, .long (ct), .int (ln), .int (fl ||| (nI (8))), .ref mv, .ref aw, .ref an]))]) (va_A [(m0, .inr (2, [.ref mc, .ref mb, .long (ct), .int (ln), .int (fl), .ref mv, .ref aw, .ref an]))] sz)) 0 0 (va_A [(m0, .inr (2, [.ref mc, .ref mb, .long (ct), .int (ln), .int (fl), .ref mv, .ref aw, .ref an]))] sz) := by
  refine M_ofW (cc := cX2_makeRoot) (maxL := 1) (ret := none) (by decide) rfl (Nat.le_of_ble_eq_true rfl) ?_
  intro p e s m below meth c A ls args Q hQ S0 hr hlocks hnm hK hst hA hW hl
  have hx := S0.1; have hb := S0.2.1; have hml := S0.2.2.1; have hown := S0.2.2.2.1; have hts := S0.2.2.2.2
  have hl : lv_has ls 1 [(0, .ref m0)] := hl
  refine lv_aload_n hx hb dX2_makeRoot_0 rfl (lv_at hl 0 rfl) ?_
  refine lv_dup hx hb dX2_makeRoot_1 rfl ?_
  refine va_get (D := D) (ci := 2) (v := .int (fl)) (C := RX2) (T := TX2) (N := 8) hx hb hts i_X2_makeRoot_X2 hown hK hW.1 0 rfl rfl 4 (by decide) (hts (.fieldLink RX2 35 "TreeHashes$Mix" "flags" "I") f_X2_makeRoot_0) (fun _ h9 => h9) rfl dX2_makeRoot_2 ?_
  refine lv_bipush (v := nI (8)) hx hb dX2_makeRoot_5 (by decide) ?_
  refine lv_ior hx hb dX2_makeRoot_7 ?_
  refine va_put (D := D) (ci := 2) (v := .int (fl ||| (nI (8)))) (ty := .int) (C := RX2) (T := TX2) (N := 8) hx hb hts i_X2_makeRoot_X2 tyX2 tyX2_ok nmX2 hown hK hW.1 hW.2.1 hW.2.2 0 rfl rfl 4 (by decide) (hts (.fieldLink RX2 35 "TreeHashes$Mix" "flags" "I") f_X2_makeRoot_0) (fun _ h9 => h9) rfl (by decide +kernel) rfl rfl (Nat.le_of_ble_eq_true rfl) dX2_makeRoot_8 (fun H locs hP hD hS => ?_)
  have hW : Wd D A s [(m0, .inr (2, [.ref mc, .ref mb, .long (ct), .int (ln), .int (fl ||| (nI (8))), .ref mv, .ref aw, .ref an]))] H locs := ⟨hP, hD, hS⟩
  exact eV hQ hx hb hr hlocks hK hW () (trivial) (rfl) dX2_makeRoot_11

theorem f_X2_writeChain_0 : Cond.fieldLink RX2 18 "TreeHashes$Mix" "v" "[I" ∈ wsX2_writeChain := by decide +kernel
theorem i_X2_writeChain_X2 : ∀ w ∈ wsX20, w ∈ wsX2_writeChain := by decide +kernel
set_option maxHeartbeats 4000000 in
set_option maxRecDepth 100000 in
theorem c_X2_writeChain (l : Launch) (D : va_G) (cy : Nat → ClassId) (t : Nat × Nat) (m0 : Nat) (mc : Nat) (mb : Nat) (mv : Nat) (aw : Nat) (an : Nat) (ct : Int64) (ln : Int32) (fl : Int32) (v : Nat → Int32) (lc : Nat) (nl : Nat) (lf : Nat → Int32) (k0 : Nat) (hk : k0 + 8 ≤ nl) (hn : nl < 2 ^ 31) (sz : Nat) : Met l yX2_writeChain wsX2_writeChain ({ frames := 0, cells := 0, slots := 0, locals := 0 }) (PcW D cy t [(m0, .inr (2, [.ref mc, .ref mb, .long (ct), .int (ln), .int (fl), .ref mv, .ref aw, .ref an])), (mv, .inl (cy 0, 16, .inl (v))), (lc, .inl (cy 0, nl, .inl (lf)))] [.ref m0, .ref lc, .int (nI (k0))] sz) (QvA D cy (fun u : Unit => True) (fun u : Unit => [(m0, .inr (2, [.ref mc, .ref mb, .long (ct), .int (ln), .int (fl), .ref mv, .ref aw, .ref an])), (mv, .inl (cy 0, 16, .inl (v))), (lc, .inl (cy 0, nl, .inl (apG lf k0 v 8)))]) (va_A [(m0, .inr (2, [.ref mc, .ref mb, .long (ct), .int (ln), .int (fl), .ref mv, .ref aw, .ref an])), (mv, .inl (cy 0, 16, .inl (v))), (lc, .inl (cy 0, nl, .inl (lf)))] sz)) 0 0 (va_A [(m0, .inr (2, [.ref mc, .ref mb, .long (ct), .int (ln), .int (fl), .ref mv, .ref aw, .ref an])), (mv, .inl (cy 0, 16, .inl (v))), (lc, .inl (cy 0, nl, .inl (lf)))] sz) := by
  refine M_ofW (cc := cX2_writeChain) (maxL := 4) (ret := none) (by decide) rfl (Nat.le_of_ble_eq_true rfl) ?_
  intro p e s m below meth c A ls args Q hQ S0 hr hlocks hnm hK hst hA hW hl
  have hx := S0.1; have hb := S0.2.1; have hml := S0.2.2.1; have hown := S0.2.2.2.1; have hts := S0.2.2.2.2
  have hl : lv_has ls 4 [(0, .ref m0), (1, .ref lc), (2, .int (nI (k0)))] := hl
  refine lv_iconst (v := nI (0)) hx hb dX2_writeChain_0 (by decide) ?_
  refine lv_istore_n (lv' := [(3, .int (nI (0))), (0, .ref m0), (1, .ref lc), (2, .int (nI (k0)))]) hx hb dX2_writeChain_1 rfl hl (by decide) rfl (fun ls hl => ?_)
  have loop2 : ∀ (nF : Nat) (i : Nat), 8 - i < nF → (i ≤ 8) → ∀ (H : Heap) (locs : List Loc), Wd D A s [(m0, .inr (2, [.ref mc, .ref mb, .long (ct), .int (ln), .int (fl), .ref mv, .ref aw, .ref an])), (mv, .inl (cy 0, 16, .inl (v))), (lc, .inl (cy 0, nl, .inl (apG lf k0 v i)))] H locs → ∀ ls : Array Slot, lv_has ls 4 [(0, .ref m0), (1, .ref lc), (2, .int (nI (k0))), (3, .int (nI (i)))] → W p l e ({ frames := 0, cells := 0, slots := 0, locals := 0 }) s m args below meth c H locs 0 0 Q (F0 m 2 ls []) := by
    intro nF
    induction nF with
    | zero => intro i hf; exact absurd hf (Nat.not_lt_zero _)
    | succ nF ih =>
      intro i hf hi H locs hW ls hl
      refine lv_iload_n hx hb dX2_writeChain_2 rfl (lv_at hl 3 rfl) ?_
      refine lv_bipush (v := nI (8)) hx hb dX2_writeChain_3 (by decide) ?_
      refine iGe (a := i) (b := 8) (tgt := 25) hx hb dX2_writeChain_5 (by decide) (by omega) (by omega) (fun h5 => ?_) (fun h5 => ?_)
      · skip
        have e9 : i = 8 := by omega
        try rw [e9] at hW
        exact eV hQ hx hb hr hlocks hK hW () (trivial) (rfl) dX2_writeChain_25
      · skip
        refine lv_aload_n hx hb dX2_writeChain_8 rfl (lv_at hl 1 rfl) ?_
        refine lv_iload_n hx hb dX2_writeChain_9 rfl (lv_at hl 2 rfl) ?_
        refine lv_iload_n hx hb dX2_writeChain_10 rfl (lv_at hl 3 rfl) ?_
        refine lv_iadd hx hb dX2_writeChain_11 ?_
        refine tI (nI_add _ _) ?_
        refine lv_aload_n hx hb dX2_writeChain_12 rfl (lv_at hl 0 rfl) ?_
        refine va_get (D := D) (ci := 2) (v := .ref mv) (C := RX2) (T := TX2) (N := 8) hx hb hts i_X2_writeChain_X2 hown hK hW.1 0 rfl rfl 5 (by decide) (hts (.fieldLink RX2 18 "TreeHashes$Mix" "v" "[I") f_X2_writeChain_0) (fun _ h9 => h9) rfl dX2_writeChain_13 ?_
        refine lv_iload_n hx hb dX2_writeChain_16 rfl (lv_at hl 3 rfl) ?_
        refine rI hx hb hK hW 1 rfl (k := i) (by omega) (by omega) dX2_writeChain_17 ?_
        refine wI hx hb hK hW 2 rfl (k := k0 + i) (by omega) (by omega) dX2_writeChain_18 (fun H locs hW => ?_)
        have hW : Wd D A s [(m0, .inr (2, [.ref mc, .ref mb, .long (ct), .int (ln), .int (fl), .ref mv, .ref aw, .ref an])), (mv, .inl (cy 0, 16, .inl (v))), (lc, .inl (cy 0, nl, .inl (upd (apG lf k0 v i) (k0 + i) (v i))))] H locs := hW
        rw [show (upd (apG lf k0 v i) (k0 + i) (v i)) = (apG lf k0 v (i + 1)) from apG_s lf k0 v i] at hW
        have hW : Wd D A s [(m0, .inr (2, [.ref mc, .ref mb, .long (ct), .int (ln), .int (fl), .ref mv, .ref aw, .ref an])), (mv, .inl (cy 0, 16, .inl (v))), (lc, .inl (cy 0, nl, .inl (apG lf k0 v (i + 1))))] H locs := hW
        refine lv_iinc (v := nI (i + 1)) (lv' := [(3, .int (nI (i + 1))), (0, .ref m0), (1, .ref lc), (2, .int (nI (k0)))]) hx hb dX2_writeChain_19 hl (k := 3) rfl (nI_1 _) (by decide) rfl (fun ls hl => ?_)
        refine lv_goto (tgt := 2) hx hb dX2_writeChain_22 (by decide) ?_
        exact ih (i + 1) (by omega) (by omega) _ _ hW _ (lv_sub hl [1, 2, 3, 0] rfl)
  rw [← apG_0 lf k0 v] at hW
  exact loop2 _ 0 (Nat.lt_succ_self _) (by omega) _ _ hW _ (lv_sub hl [1, 2, 3, 0] rfl)

theorem f_X2_outputByte_0 : Cond.fieldLink RX2 18 "TreeHashes$Mix" "v" "[I" ∈ wsX2_outputByte := by decide +kernel
theorem i_X2_outputByte_X2 : ∀ w ∈ wsX20, w ∈ wsX2_outputByte := by decide +kernel
set_option maxHeartbeats 4000000 in
set_option maxRecDepth 100000 in
theorem c_X2_outputByte (l : Launch) (D : va_G) (cy : Nat → ClassId) (t : Nat × Nat) (m0 : Nat) (mc : Nat) (mb : Nat) (mv : Nat) (aw : Nat) (an : Nat) (ct : Int64) (ln : Int32) (fl : Int32) (v : Nat → Int32) (i : Nat) (hi : i < 64) (sz : Nat) : Met l yX2_outputByte wsX2_outputByte ({ frames := 0, cells := 0, slots := 0, locals := 0 }) (PcW D cy t [(m0, .inr (2, [.ref mc, .ref mb, .long (ct), .int (ln), .int (fl), .ref mv, .ref aw, .ref an])), (mv, .inl (cy 0, 16, .inl (v)))] [.ref m0, .int (nI (i))] sz) (QiA D cy (fun (r : Int32) (u : Unit) => (r = oby v i)) (fun u : Unit => [(m0, .inr (2, [.ref mc, .ref mb, .long (ct), .int (ln), .int (fl), .ref mv, .ref aw, .ref an])), (mv, .inl (cy 0, 16, .inl (v)))]) (va_A [(m0, .inr (2, [.ref mc, .ref mb, .long (ct), .int (ln), .int (fl), .ref mv, .ref aw, .ref an])), (mv, .inl (cy 0, 16, .inl (v)))] sz)) 0 0 (va_A [(m0, .inr (2, [.ref mc, .ref mb, .long (ct), .int (ln), .int (fl), .ref mv, .ref aw, .ref an])), (mv, .inl (cy 0, 16, .inl (v)))] sz) := by
  refine M_ofW (cc := cX2_outputByte) (maxL := 2) (ret := (some .int)) (by decide) rfl (Nat.le_of_ble_eq_true rfl) ?_
  intro p e s m below meth c A ls args Q hQ S0 hr hlocks hnm hK hst hA hW hl
  have hx := S0.1; have hb := S0.2.1; have hml := S0.2.2.1; have hown := S0.2.2.2.1; have hts := S0.2.2.2.2
  have hl : lv_has ls 2 [(0, .ref m0), (1, .int (nI (i)))] := hl
  refine lv_aload_n hx hb dX2_outputByte_0 rfl (lv_at hl 0 rfl) ?_
  refine va_get (D := D) (ci := 2) (v := .ref mv) (C := RX2) (T := TX2) (N := 8) hx hb hts i_X2_outputByte_X2 hown hK hW.1 0 rfl rfl 5 (by decide) (hts (.fieldLink RX2 18 "TreeHashes$Mix" "v" "[I") f_X2_outputByte_0) (fun _ h9 => h9) rfl dX2_outputByte_1 ?_
  refine lv_iload_n hx hb dX2_outputByte_4 rfl (lv_at hl 1 rfl) ?_
  refine lv_iconst (v := nI (2)) hx hb dX2_outputByte_5 (by decide) ?_
  refine lv_ishr hx hb dX2_outputByte_6 ?_
  refine tI (x' := nI (i / 2 ^ 2)) (pk_shrN (by omega) _ 2 (by decide)) ?_
  refine rI hx hb hK hW 1 rfl (k := i / 2 ^ 2) (by omega) (by omega) dX2_outputByte_7 ?_
  refine lv_bipush (v := nI (8)) hx hb dX2_outputByte_8 (by decide) ?_
  refine lv_iload_n hx hb dX2_outputByte_10 rfl (lv_at hl 1 rfl) ?_
  refine lv_iconst (v := nI (3)) hx hb dX2_outputByte_11 (by decide) ?_
  refine lv_iand hx hb dX2_outputByte_12 ?_
  refine tI (x' := nI (i % 2 ^ 2)) (pk_andN (by omega) 2 (by decide)) ?_
  refine lv_imul hx hb dX2_outputByte_13 ?_
  refine tI (pk_mul _ _) ?_
  refine lv_iushr hx hb dX2_outputByte_14 rfl ?_
  refine lv_sipush (v := nI (255)) hx hb dX2_outputByte_15 (by decide) ?_
  refine lv_iand hx hb dX2_outputByte_18 ?_
  refine tI (x' := oby v i) (rfl) ?_
  exact eI hQ hx hb hr hlocks hK hW () (rfl) (rfl) dX2_outputByte_19
end
section
theorem f_X2_writeOutput_0 : Cond.constantLong RX2 51 (63) ∈ wsX2_writeOutput := by decide +kernel
theorem f_X2_writeOutput_1 : Cond.fieldLink RX2 27 "TreeHashes$Mix" "count" "J" ∈ wsX2_writeOutput := by decide +kernel
theorem i_X2_writeOutput_X2 : ∀ w ∈ wsX20, w ∈ wsX2_writeOutput := by decide +kernel
set_option maxHeartbeats 4000000 in
set_option maxRecDepth 100000 in
theorem c_X2_writeOutput (l : Launch) (D : va_G) (cy : Nat → ClassId) (t : Nat × Nat) (m0 : Nat) (mc : Nat) (mb : Nat) (mv : Nat) (aw : Nat) (an : Nat) (ct : Int64) (ln : Int32) (fl : Int32) (ch : Nat → Int32) (bl : Nat → Int32) (v : Nat → Int32) (w : Nat → Int32) (nw : Nat → Int32) (b0 : Nat) (b1 : Nat) (n0 : Nat) (cnt : Nat) (f : Nat → Int32) (n : Nat) (pl : Nat) (hc : cnt ≤ n0) (hn : n0 < 2 ^ 31) (hm : n ≤ n0) (hp : pl ≤ 2 ^ 62) (sz : Nat) : Met l yX2_writeOutput wsX2_writeOutput ({ frames := 2, cells := 0, slots := 0, locals := 51 }) (PcW D cy t [(m0, .inr (2, [.ref mc, .ref mb, .long (ct), .int (ln), .int (fl), .ref mv, .ref aw, .ref an])), (mc, .inl (cy 0, 8, .inl (ch))), (mb, .inl (cy 0, 16, .inl (bl))), (mv, .inl (cy 0, 16, .inl (v))), (aw, .inl (cy 0, 16, .inl (w))), (an, .inl (cy 0, 16, .inl (nw))), (b0, .inr (0, [.ref b1, .int (nI (cnt))])), (b1, .inl (cy 1, n0, .inl (f)))] [.ref m0, .ref b0, .int (nI (n)), .long (lN pl)] sz) (QvA D cy (fun u : (Int64) × (Nat → Int32) × (Nat) × (Nat) × (Nat → Int32) × (Nat → Int32) => match u with | (ct2, v2, aw2, an2, w2, nw2) => True) (fun u : (Int64) × (Nat → Int32) × (Nat) × (Nat) × (Nat → Int32) × (Nat → Int32) => match u with | (ct2, v2, aw2, an2, w2, nw2) => [(m0, .inr (2, [.ref mc, .ref mb, .long (ct2), .int (ln), .int ((fl ||| (nI (8)))), .ref mv, .ref aw2, .ref an2])), (mc, .inl (cy 0, 8, .inl (ch))), (mb, .inl (cy 0, 16, .inl (bl))), (mv, .inl (cy 0, 16, .inl (v2))), (aw2, .inl (cy 0, 16, .inl (w2))), (an2, .inl (cy 0, 16, .inl (nw2))), (b0, .inr (0, [.ref b1, .int (nI (n))])), (b1, .inl (cy 1, n0, .inl (apG f 0 (fun k => b8 (outB ch bl ln (fl ||| (nI (8))) (pl + k))) n)))]) (va_A [(m0, .inr (2, [.ref mc, .ref mb, .long (ct), .int (ln), .int (fl), .ref mv, .ref aw, .ref an])), (mc, .inl (cy 0, 8, .inl (ch))), (mb, .inl (cy 0, 16, .inl (bl))), (mv, .inl (cy 0, 16, .inl (v))), (aw, .inl (cy 0, 16, .inl (w))), (an, .inl (cy 0, 16, .inl (nw))), (b0, .inr (0, [.ref b1, .int (nI (cnt))])), (b1, .inl (cy 1, n0, .inl (f)))] sz)) 0 0 (va_A [(m0, .inr (2, [.ref mc, .ref mb, .long (ct), .int (ln), .int (fl), .ref mv, .ref aw, .ref an])), (mc, .inl (cy 0, 8, .inl (ch))), (mb, .inl (cy 0, 16, .inl (bl))), (mv, .inl (cy 0, 16, .inl (v))), (aw, .inl (cy 0, 16, .inl (w))), (an, .inl (cy 0, 16, .inl (nw))), (b0, .inr (0, [.ref b1, .int (nI (cnt))])), (b1, .inl (cy 1, n0, .inl (f)))] sz) := by
  refine M_ofW (cc := cX2_writeOutput) (maxL := 7) (ret := none) (by decide) rfl (Nat.le_of_ble_eq_true rfl) ?_
  intro p e s m below meth c A ls args Q hQ S0 hr hlocks hnm hK hst hA hW hl
  have hx := S0.1; have hb := S0.2.1; have hml := S0.2.2.1; have hown := S0.2.2.2.1; have hts := S0.2.2.2.2
  have hl : lv_has ls 7 [(0, .ref m0), (1, .ref b0), (2, .int (nI (n))), (3, .long (lN pl))] := hl
  refine lv_aload_n hx hb dX2_writeOutput_0 rfl (lv_at hl 1 rfl) ?_
  refine lv_iconst (v := nI (0)) hx hb dX2_writeOutput_1 (by decide) ?_
  refine kVi (As := [.int (nI (0))]) (rest := []) S0 hK hst hA hW [6, 7] (fun sz => c_X0_keepFirst_n l D cy t b0 b1 n0 cnt f 0 (by omega) (by omega) (by omega) sz) rfl (by decide) (cwV 1 hts gX2_writeOutput_X0_keepFirst rfl rfl rfl (by decide +kernel) ⟨Nat.le_of_ble_eq_true rfl, Nat.le_of_ble_eq_true rfl⟩) (fun _ => rfl) 0 0 rfl rfl rfl hl.1 rfl (Nat.le_of_ble_eq_true rfl) dX2_writeOutput_2 ⟨Nat.le_of_ble_eq_true rfl, Nat.le_of_ble_eq_true rfl⟩ (fun r2 u2 H locs p2 hW => ?_)
  have hW : Wd D A s [(m0, .inr (2, [.ref mc, .ref mb, .long (ct), .int (ln), .int (fl), .ref mv, .ref aw, .ref an])), (mc, .inl (cy 0, 8, .inl (ch))), (mb, .inl (cy 0, 16, .inl (bl))), (mv, .inl (cy 0, 16, .inl (v))), (aw, .inl (cy 0, 16, .inl (w))), (an, .inl (cy 0, 16, .inl (nw))), (b0, .inr (0, [.ref b1, .int (nI (0))])), (b1, .inl (cy 1, n0, .inl (f)))] H locs := hW
  have q2 : r2 = nI (cnt - 0) := p2
  subst q2
  refine lv_pop hx hb dX2_writeOutput_5 rfl ?_
  refine lv_aload_n hx hb dX2_writeOutput_6 rfl (lv_at hl 0 rfl) ?_
  refine kVv (As := []) (rest := []) S0 hK hst hA hW [0] (fun sz => c_X2_makeRoot l D cy t m0 mc mb mv aw an ct ln fl  sz) rfl (by decide) (cwV 0 hts gX2_writeOutput_X2_makeRoot rfl rfl rfl (by decide +kernel) ⟨Nat.le_of_ble_eq_true rfl, Nat.le_of_ble_eq_true rfl⟩) (fun _ => rfl) 0 2 rfl rfl rfl hl.1 rfl (Nat.le_of_ble_eq_true rfl) dX2_writeOutput_7 ⟨Nat.le_of_ble_eq_true rfl, Nat.le_of_ble_eq_true rfl⟩ (fun u7 H locs p7 hW => ?_)
  have hW : Wd D A s [(m0, .inr (2, [.ref mc, .ref mb, .long (ct), .int (ln), .int (fl ||| (nI (8))), .ref mv, .ref aw, .ref an])), (mc, .inl (cy 0, 8, .inl (ch))), (mb, .inl (cy 0, 16, .inl (bl))), (mv, .inl (cy 0, 16, .inl (v))), (aw, .inl (cy 0, 16, .inl (w))), (an, .inl (cy 0, 16, .inl (nw))), (b0, .inr (0, [.ref b1, .int (nI (0))])), (b1, .inl (cy 1, n0, .inl (f)))] H locs := hW
  refine lv_iconst (v := nI (0)) hx hb dX2_writeOutput_10 (by decide) ?_
  refine lv_istore (lv' := [(5, .int (nI (0))), (0, .ref m0), (1, .ref b0), (2, .int (nI (n))), (3, .long (lN pl))]) hx hb dX2_writeOutput_11 hl (by decide) rfl (fun ls hl => ?_)
  have loop13 : ∀ (nF : Nat) (i : Nat) (cx : Int64) (vx : Nat → Int32) (ax : Nat) (ay : Nat) (wx : Nat → Int32) (nx : Nat → Int32), n - i < nF → (i ≤ n) → (0 < i → vx = mixV ch bl (lN ((pl + (i - 1)) / 2 ^ 6)) ln (fl ||| (nI (8)))) → ∀ (H : Heap) (locs : List Loc), Wd D A s [(m0, .inr (2, [.ref mc, .ref mb, .long (cx), .int (ln), .int (fl ||| (nI (8))), .ref mv, .ref ax, .ref ay])), (mc, .inl (cy 0, 8, .inl (ch))), (mb, .inl (cy 0, 16, .inl (bl))), (mv, .inl (cy 0, 16, .inl (vx))), (ax, .inl (cy 0, 16, .inl (wx))), (ay, .inl (cy 0, 16, .inl (nx))), (b0, .inr (0, [.ref b1, .int (nI (i))])), (b1, .inl (cy 1, n0, .inl (apG f 0 (fun k => b8 (outB ch bl ln (fl ||| (nI (8))) (pl + k))) i)))] H locs → ∀ ls : Array Slot, lv_has ls 7 [(0, .ref m0), (1, .ref b0), (2, .int (nI (n))), (3, .long (lN pl)), (5, .int (nI (i)))] → W p l e ({ frames := 2, cells := 0, slots := 0, locals := 51 }) s m args below meth c H locs 0 0 Q (F0 m 13 ls []) := by
    intro nF
    induction nF with
    | zero => intro i cx vx ax ay wx nx hf; exact absurd hf (Nat.not_lt_zero _)
    | succ nF ih =>
      intro i cx vx ax ay wx nx hf hi hv H locs hW ls hl
      refine lv_iload hx hb dX2_writeOutput_13 (lv_at hl 4 rfl) ?_
      refine lv_iload_n hx hb dX2_writeOutput_15 rfl (lv_at hl 2 rfl) ?_
      refine iGe (a := i) (b := n) (tgt := 73) hx hb dX2_writeOutput_16 (by decide) (by omega) (by omega) (fun h16 => ?_) (fun h16 => ?_)
      · skip
        have e9 : i = n := by omega
        rw [e9] at hW
        exact eV hQ hx hb hr hlocks hK hW (cx, vx, ax, ay, wx, nx) (trivial) (rfl) dX2_writeOutput_73
      · skip
        refine lv_lload_n hx hb dX2_writeOutput_19 rfl (lv_at hl 3 rfl) ?_
        refine lv_iload hx hb dX2_writeOutput_20 (lv_at hl 4 rfl) ?_
        refine lv_i2l hx hb dX2_writeOutput_22 rfl ?_
        refine lv_ladd hx hb dX2_writeOutput_23 ?_
        refine tL (x' := lN (pl + i)) (by rw [nI_l (by omega), lN_add]) ?_
        refine lv_ldc2 (v := (63 : Int64)) hx hb hown (hts (.constantLong RX2 51 (63)) f_X2_writeOutput_0) dX2_writeOutput_24 ?_
        refine lv_land hx hb dX2_writeOutput_27 ?_
        refine tL (x' := lN ((pl + i) % 2 ^ 6)) ((wb_mask (k := 6) (by omega) (by decide) : lN (pl + i) &&& lN (2 ^ 6 - 1) = _)) ?_
        refine lv_l2i hx hb dX2_writeOutput_28 rfl ?_
        refine tI (x' := nI ((pl + i) % 2 ^ 6)) (lN_i _) ?_
        refine lv_istore (lv' := [(6, .int (nI ((pl + i) % 2 ^ 6))), (0, .ref m0), (1, .ref b0), (2, .int (nI (n))), (3, .long (lN pl)), (5, .int (nI (i)))]) hx hb dX2_writeOutput_29 hl (by decide) rfl (fun ls hl => ?_)
        refine lv_iload hx hb dX2_writeOutput_31 (lv_at hl 5 rfl) ?_
        refine zEq (a := i) (tgt := 41) hx hb dX2_writeOutput_33 (by decide) (by omega) (fun h33 => ?_) (fun h33 => ?_)
        · skip
          refine lv_aload_n hx hb dX2_writeOutput_41 rfl (lv_at hl 1 rfl) ?_
          refine lv_lload_n hx hb dX2_writeOutput_42 rfl (lv_at hl 4 rfl) ?_
          refine lv_iload hx hb dX2_writeOutput_43 (lv_at hl 5 rfl) ?_
          refine lv_i2l hx hb dX2_writeOutput_45 rfl ?_
          refine lv_ladd hx hb dX2_writeOutput_46 ?_
          refine tL (x' := lN (pl + i)) (by rw [nI_l (by omega), lN_add]) ?_
          refine lv_bipush (v := nI (6)) hx hb dX2_writeOutput_47 (by decide) ?_
          refine lv_lushr hx hb dX2_writeOutput_49 rfl ?_
          refine tL (x' := lN ((pl + i) / 2 ^ 6)) (wb_shr (k := 6) (by omega) (by decide)) ?_
          refine va_put (D := D) (ci := 2) (v := .long (lN ((pl + i) / 2 ^ 6))) (ty := .long) (C := RX2) (T := TX2) (N := 8) hx hb hts i_X2_writeOutput_X2 tyX2 tyX2_ok nmX2 hown hK hW.1 hW.2.1 hW.2.2 0 rfl rfl 2 (by decide) (hts (.fieldLink RX2 27 "TreeHashes$Mix" "count" "J") f_X2_writeOutput_1) (fun _ h9 => h9) rfl (by decide +kernel) rfl rfl (Nat.le_of_ble_eq_true rfl) dX2_writeOutput_50 (fun H locs hP hD hS => ?_)
          have hW : Wd D A s [(m0, .inr (2, [.ref mc, .ref mb, .long (lN ((pl + i) / 2 ^ 6)), .int (ln), .int (fl ||| (nI (8))), .ref mv, .ref ax, .ref ay])), (mc, .inl (cy 0, 8, .inl (ch))), (mb, .inl (cy 0, 16, .inl (bl))), (mv, .inl (cy 0, 16, .inl (vx))), (ax, .inl (cy 0, 16, .inl (wx))), (ay, .inl (cy 0, 16, .inl (nx))), (b0, .inr (0, [.ref b1, .int (nI (i))])), (b1, .inl (cy 1, n0, .inl (apG f 0 (fun k => b8 (outB ch bl ln (fl ||| (nI (8))) (pl + k))) i)))] H locs := ⟨hP, hD, hS⟩
          refine lv_aload_n hx hb dX2_writeOutput_53 rfl (lv_at hl 1 rfl) ?_
          refine kVv (As := []) (rest := []) S0 hK hst hA hW [0, 1, 2, 3, 4, 5] (fun sz => c_X2_run l D cy t m0 mc mb mv ax ay (lN ((pl + i) / 2 ^ 6)) ln (fl ||| (nI (8))) ch bl vx wx nx  sz) rfl (by decide) (cwV 0 hts gX2_writeOutput_X2_run rfl rfl rfl (by decide +kernel) ⟨Nat.le_of_ble_eq_true rfl, Nat.le_of_ble_eq_true rfl⟩) (fun ⟨_, _, _, _⟩ => rfl) 0 2 rfl rfl rfl hl.1 rfl (Nat.le_of_ble_eq_true rfl) dX2_writeOutput_54 ⟨Nat.le_of_ble_eq_true rfl, Nat.le_of_ble_eq_true rfl⟩ (fun u54 H locs p54 hW => ?_)
          obtain ⟨aw2_54, an2_54, w2_54, nw2_54⟩ := u54
          have hW : Wd D A s [(m0, .inr (2, [.ref mc, .ref mb, .long ((lN ((pl + i) / 2 ^ 6))), .int (ln), .int ((fl ||| (nI (8)))), .ref mv, .ref aw2_54, .ref an2_54])), (mc, .inl (cy 0, 8, .inl (ch))), (mb, .inl (cy 0, 16, .inl (bl))), (mv, .inl (cy 0, 16, .inl (mixV ch bl (lN ((pl + i) / 2 ^ 6)) ln (fl ||| (nI (8)))))), (aw2_54, .inl (cy 0, 16, .inl (w2_54))), (an2_54, .inl (cy 0, 16, .inl (nw2_54))), (b0, .inr (0, [.ref b1, .int (nI (i))])), (b1, .inl (cy 1, n0, .inl (apG f 0 (fun k => b8 (outB ch bl ln (fl ||| (nI (8))) (pl + k))) i)))] H locs := hW
          refine lv_aload_n hx hb dX2_writeOutput_57 rfl (lv_at hl 2 rfl) ?_
          refine lv_aload_n hx hb dX2_writeOutput_58 rfl (lv_at hl 1 rfl) ?_
          refine lv_iload hx hb dX2_writeOutput_59 (lv_at hl 0 rfl) ?_
          refine kVi (As := [.int (nI ((pl + i) % 2 ^ 6))]) (rest := [.ref b0]) S0 hK hst hA hW [0, 3] (fun sz => c_X2_outputByte l D cy t m0 mc mb mv aw2_54 an2_54 ((lN ((pl + i) / 2 ^ 6))) ln ((fl ||| (nI (8)))) (mixV ch bl (lN ((pl + i) / 2 ^ 6)) ln (fl ||| (nI (8)))) ((pl + i) % 2 ^ 6) (by omega) sz) rfl (by decide) (cwV 1 hts gX2_writeOutput_X2_outputByte rfl rfl rfl (by decide +kernel) ⟨Nat.le_of_ble_eq_true rfl, Nat.le_of_ble_eq_true rfl⟩) (fun _ => rfl) 0 2 rfl rfl rfl hl.1 rfl (Nat.le_of_ble_eq_true rfl) dX2_writeOutput_61 ⟨Nat.le_of_ble_eq_true rfl, Nat.le_of_ble_eq_true rfl⟩ (fun r61 u61 H locs p61 hW => ?_)
          have hW : Wd D A s [(m0, .inr (2, [.ref mc, .ref mb, .long (((lN ((pl + i) / 2 ^ 6)))), .int (ln), .int (((fl ||| (nI (8))))), .ref mv, .ref aw2_54, .ref an2_54])), (mc, .inl (cy 0, 8, .inl (ch))), (mb, .inl (cy 0, 16, .inl (bl))), (mv, .inl (cy 0, 16, .inl ((mixV ch bl (lN ((pl + i) / 2 ^ 6)) ln (fl ||| (nI (8))))))), (aw2_54, .inl (cy 0, 16, .inl (w2_54))), (an2_54, .inl (cy 0, 16, .inl (nw2_54))), (b0, .inr (0, [.ref b1, .int (nI (i))])), (b1, .inl (cy 1, n0, .inl (apG f 0 (fun k => b8 (outB ch bl ln (fl ||| (nI (8))) (pl + k))) i)))] H locs := hW
          have q61 : r61 = oby (mixV ch bl (lN ((pl + i) / 2 ^ 6)) ln (fl ||| (nI (8)))) ((pl + i) % 2 ^ 6) := p61
          subst q61
          refine tI (x' := outB ch bl ln (fl ||| (nI (8))) (pl + i)) (by first | rfl | (rw [hv (by omega), show (pl + (i - 1)) / 2 ^ 6 = (pl + i) / 2 ^ 6 from by omega]; rfl)) ?_
          refine kVv (As := [.int (outB ch bl ln (fl ||| (nI (8))) (pl + i))]) (rest := []) S0 hK hst hA hW [6, 7] (fun sz => c_X0_append l D cy t b0 b1 n0 i (apG f 0 (fun k => b8 (outB ch bl ln (fl ||| (nI (8))) (pl + k))) i) (outB ch bl ln (fl ||| (nI (8))) (pl + i)) (by omega) (by omega) sz) rfl (by decide) (cwV 1 hts gX2_writeOutput_X0_append rfl rfl rfl (by decide +kernel) ⟨Nat.le_of_ble_eq_true rfl, Nat.le_of_ble_eq_true rfl⟩) (fun _ => rfl) 0 0 rfl rfl rfl hl.1 rfl (Nat.le_of_ble_eq_true rfl) dX2_writeOutput_64 ⟨Nat.le_of_ble_eq_true rfl, Nat.le_of_ble_eq_true rfl⟩ (fun u64 H locs p64 hW => ?_)
          have hW : Wd D A s [(m0, .inr (2, [.ref mc, .ref mb, .long (((lN ((pl + i) / 2 ^ 6)))), .int (ln), .int (((fl ||| (nI (8))))), .ref mv, .ref aw2_54, .ref an2_54])), (mc, .inl (cy 0, 8, .inl (ch))), (mb, .inl (cy 0, 16, .inl (bl))), (mv, .inl (cy 0, 16, .inl ((mixV ch bl (lN ((pl + i) / 2 ^ 6)) ln (fl ||| (nI (8))))))), (aw2_54, .inl (cy 0, 16, .inl (w2_54))), (an2_54, .inl (cy 0, 16, .inl (nw2_54))), (b0, .inr (0, [.ref b1, .int (nI (i + 1))])), (b1, .inl (cy 1, n0, .inl (upd (apG f 0 (fun k => b8 (outB ch bl ln (fl ||| (nI (8))) (pl + k))) i) i (b8 (outB ch bl ln (fl ||| (nI (8))) (pl + i))))))] H locs := hW
          rw [show (upd (apG f 0 (fun k => b8 (outB ch bl ln (fl ||| (nI (8))) (pl + k))) i) i (b8 (outB ch bl ln (fl ||| (nI (8))) (pl + i)))) = (apG f 0 (fun k => b8 (outB ch bl ln (fl ||| (nI (8))) (pl + k))) (i + 1)) from by rw [← apG_s f 0 (fun k => b8 (outB ch bl ln (fl ||| (nI (8))) (pl + k))) i, Nat.zero_add]] at hW
          have hW : Wd D A s [(m0, .inr (2, [.ref mc, .ref mb, .long (((lN ((pl + i) / 2 ^ 6)))), .int (ln), .int (((fl ||| (nI (8))))), .ref mv, .ref aw2_54, .ref an2_54])), (mc, .inl (cy 0, 8, .inl (ch))), (mb, .inl (cy 0, 16, .inl (bl))), (mv, .inl (cy 0, 16, .inl ((mixV ch bl (lN ((pl + i) / 2 ^ 6)) ln (fl ||| (nI (8))))))), (aw2_54, .inl (cy 0, 16, .inl (w2_54))), (an2_54, .inl (cy 0, 16, .inl (nw2_54))), (b0, .inr (0, [.ref b1, .int (nI (i + 1))])), (b1, .inl (cy 1, n0, .inl (apG f 0 (fun k => b8 (outB ch bl ln (fl ||| (nI (8))) (pl + k))) (i + 1))))] H locs := hW
          refine lv_iinc (v := nI (i + 1)) (lv' := [(5, .int (nI (i + 1))), (6, .int (nI ((pl + i) % 2 ^ 6))), (0, .ref m0), (1, .ref b0), (2, .int (nI (n))), (3, .long (lN pl))]) hx hb dX2_writeOutput_67 hl (k := 5) rfl (nI_1 _) (by decide) rfl (fun ls hl => ?_)
          refine lv_goto (tgt := 13) hx hb dX2_writeOutput_70 (by decide) ?_
          exact ih (i + 1) (((lN ((pl + i) / 2 ^ 6)))) ((mixV ch bl (lN ((pl + i) / 2 ^ 6)) ln (fl ||| (nI (8))))) aw2_54 an2_54 w2_54 nw2_54 (by omega) (by omega) (fun _ => by rw [Nat.add_sub_cancel]) _ _ hW _ (lv_sub hl [2, 3, 4, 5, 0] rfl)
        · skip
          refine lv_iload hx hb dX2_writeOutput_36 (lv_at hl 0 rfl) ?_
          refine zNe (a := (pl + i) % 2 ^ 6) (tgt := 57) hx hb dX2_writeOutput_38 (by decide) (by omega) (fun h38 => ?_) (fun h38 => ?_)
          · skip
            refine lv_aload_n hx hb dX2_writeOutput_57 rfl (lv_at hl 2 rfl) ?_
            refine lv_aload_n hx hb dX2_writeOutput_58 rfl (lv_at hl 1 rfl) ?_
            refine lv_iload hx hb dX2_writeOutput_59 (lv_at hl 0 rfl) ?_
            refine kVi (As := [.int (nI ((pl + i) % 2 ^ 6))]) (rest := [.ref b0]) S0 hK hst hA hW [0, 3] (fun sz => c_X2_outputByte l D cy t m0 mc mb mv ax ay cx ln (fl ||| (nI (8))) vx ((pl + i) % 2 ^ 6) (by omega) sz) rfl (by decide) (cwV 1 hts gX2_writeOutput_X2_outputByte rfl rfl rfl (by decide +kernel) ⟨Nat.le_of_ble_eq_true rfl, Nat.le_of_ble_eq_true rfl⟩) (fun _ => rfl) 0 2 rfl rfl rfl hl.1 rfl (Nat.le_of_ble_eq_true rfl) dX2_writeOutput_61 ⟨Nat.le_of_ble_eq_true rfl, Nat.le_of_ble_eq_true rfl⟩ (fun r61 u61 H locs p61 hW => ?_)
            have hW : Wd D A s [(m0, .inr (2, [.ref mc, .ref mb, .long (cx), .int (ln), .int ((fl ||| (nI (8)))), .ref mv, .ref ax, .ref ay])), (mc, .inl (cy 0, 8, .inl (ch))), (mb, .inl (cy 0, 16, .inl (bl))), (mv, .inl (cy 0, 16, .inl (vx))), (ax, .inl (cy 0, 16, .inl (wx))), (ay, .inl (cy 0, 16, .inl (nx))), (b0, .inr (0, [.ref b1, .int (nI (i))])), (b1, .inl (cy 1, n0, .inl (apG f 0 (fun k => b8 (outB ch bl ln (fl ||| (nI (8))) (pl + k))) i)))] H locs := hW
            have q61 : r61 = oby vx ((pl + i) % 2 ^ 6) := p61
            subst q61
            refine tI (x' := outB ch bl ln (fl ||| (nI (8))) (pl + i)) (by first | rfl | (rw [hv (by omega), show (pl + (i - 1)) / 2 ^ 6 = (pl + i) / 2 ^ 6 from by omega]; rfl)) ?_
            refine kVv (As := [.int (outB ch bl ln (fl ||| (nI (8))) (pl + i))]) (rest := []) S0 hK hst hA hW [6, 7] (fun sz => c_X0_append l D cy t b0 b1 n0 i (apG f 0 (fun k => b8 (outB ch bl ln (fl ||| (nI (8))) (pl + k))) i) (outB ch bl ln (fl ||| (nI (8))) (pl + i)) (by omega) (by omega) sz) rfl (by decide) (cwV 1 hts gX2_writeOutput_X0_append rfl rfl rfl (by decide +kernel) ⟨Nat.le_of_ble_eq_true rfl, Nat.le_of_ble_eq_true rfl⟩) (fun _ => rfl) 0 0 rfl rfl rfl hl.1 rfl (Nat.le_of_ble_eq_true rfl) dX2_writeOutput_64 ⟨Nat.le_of_ble_eq_true rfl, Nat.le_of_ble_eq_true rfl⟩ (fun u64 H locs p64 hW => ?_)
            have hW : Wd D A s [(m0, .inr (2, [.ref mc, .ref mb, .long (cx), .int (ln), .int ((fl ||| (nI (8)))), .ref mv, .ref ax, .ref ay])), (mc, .inl (cy 0, 8, .inl (ch))), (mb, .inl (cy 0, 16, .inl (bl))), (mv, .inl (cy 0, 16, .inl (vx))), (ax, .inl (cy 0, 16, .inl (wx))), (ay, .inl (cy 0, 16, .inl (nx))), (b0, .inr (0, [.ref b1, .int (nI (i + 1))])), (b1, .inl (cy 1, n0, .inl (upd (apG f 0 (fun k => b8 (outB ch bl ln (fl ||| (nI (8))) (pl + k))) i) i (b8 (outB ch bl ln (fl ||| (nI (8))) (pl + i))))))] H locs := hW
            rw [show (upd (apG f 0 (fun k => b8 (outB ch bl ln (fl ||| (nI (8))) (pl + k))) i) i (b8 (outB ch bl ln (fl ||| (nI (8))) (pl + i)))) = (apG f 0 (fun k => b8 (outB ch bl ln (fl ||| (nI (8))) (pl + k))) (i + 1)) from by rw [← apG_s f 0 (fun k => b8 (outB ch bl ln (fl ||| (nI (8))) (pl + k))) i, Nat.zero_add]] at hW
            have hW : Wd D A s [(m0, .inr (2, [.ref mc, .ref mb, .long (cx), .int (ln), .int ((fl ||| (nI (8)))), .ref mv, .ref ax, .ref ay])), (mc, .inl (cy 0, 8, .inl (ch))), (mb, .inl (cy 0, 16, .inl (bl))), (mv, .inl (cy 0, 16, .inl (vx))), (ax, .inl (cy 0, 16, .inl (wx))), (ay, .inl (cy 0, 16, .inl (nx))), (b0, .inr (0, [.ref b1, .int (nI (i + 1))])), (b1, .inl (cy 1, n0, .inl (apG f 0 (fun k => b8 (outB ch bl ln (fl ||| (nI (8))) (pl + k))) (i + 1))))] H locs := hW
            refine lv_iinc (v := nI (i + 1)) (lv' := [(5, .int (nI (i + 1))), (6, .int (nI ((pl + i) % 2 ^ 6))), (0, .ref m0), (1, .ref b0), (2, .int (nI (n))), (3, .long (lN pl))]) hx hb dX2_writeOutput_67 hl (k := 5) rfl (nI_1 _) (by decide) rfl (fun ls hl => ?_)
            refine lv_goto (tgt := 13) hx hb dX2_writeOutput_70 (by decide) ?_
            exact ih (i + 1) cx vx ax ay wx nx (by omega) (by omega) (fun _ => by rw [Nat.add_sub_cancel, hv (by omega), show (pl + (i - 1)) / 2 ^ 6 = (pl + i) / 2 ^ 6 from by omega]) _ _ hW _ (lv_sub hl [2, 3, 4, 5, 0] rfl)
          · skip
            refine lv_aload_n hx hb dX2_writeOutput_41 rfl (lv_at hl 1 rfl) ?_
            refine lv_lload_n hx hb dX2_writeOutput_42 rfl (lv_at hl 4 rfl) ?_
            refine lv_iload hx hb dX2_writeOutput_43 (lv_at hl 5 rfl) ?_
            refine lv_i2l hx hb dX2_writeOutput_45 rfl ?_
            refine lv_ladd hx hb dX2_writeOutput_46 ?_
            refine tL (x' := lN (pl + i)) (by rw [nI_l (by omega), lN_add]) ?_
            refine lv_bipush (v := nI (6)) hx hb dX2_writeOutput_47 (by decide) ?_
            refine lv_lushr hx hb dX2_writeOutput_49 rfl ?_
            refine tL (x' := lN ((pl + i) / 2 ^ 6)) (wb_shr (k := 6) (by omega) (by decide)) ?_
            refine va_put (D := D) (ci := 2) (v := .long (lN ((pl + i) / 2 ^ 6))) (ty := .long) (C := RX2) (T := TX2) (N := 8) hx hb hts i_X2_writeOutput_X2 tyX2 tyX2_ok nmX2 hown hK hW.1 hW.2.1 hW.2.2 0 rfl rfl 2 (by decide) (hts (.fieldLink RX2 27 "TreeHashes$Mix" "count" "J") f_X2_writeOutput_1) (fun _ h9 => h9) rfl (by decide +kernel) rfl rfl (Nat.le_of_ble_eq_true rfl) dX2_writeOutput_50 (fun H locs hP hD hS => ?_)
            have hW : Wd D A s [(m0, .inr (2, [.ref mc, .ref mb, .long (lN ((pl + i) / 2 ^ 6)), .int (ln), .int (fl ||| (nI (8))), .ref mv, .ref ax, .ref ay])), (mc, .inl (cy 0, 8, .inl (ch))), (mb, .inl (cy 0, 16, .inl (bl))), (mv, .inl (cy 0, 16, .inl (vx))), (ax, .inl (cy 0, 16, .inl (wx))), (ay, .inl (cy 0, 16, .inl (nx))), (b0, .inr (0, [.ref b1, .int (nI (i))])), (b1, .inl (cy 1, n0, .inl (apG f 0 (fun k => b8 (outB ch bl ln (fl ||| (nI (8))) (pl + k))) i)))] H locs := ⟨hP, hD, hS⟩
            refine lv_aload_n hx hb dX2_writeOutput_53 rfl (lv_at hl 1 rfl) ?_
            refine kVv (As := []) (rest := []) S0 hK hst hA hW [0, 1, 2, 3, 4, 5] (fun sz => c_X2_run l D cy t m0 mc mb mv ax ay (lN ((pl + i) / 2 ^ 6)) ln (fl ||| (nI (8))) ch bl vx wx nx  sz) rfl (by decide) (cwV 0 hts gX2_writeOutput_X2_run rfl rfl rfl (by decide +kernel) ⟨Nat.le_of_ble_eq_true rfl, Nat.le_of_ble_eq_true rfl⟩) (fun ⟨_, _, _, _⟩ => rfl) 0 2 rfl rfl rfl hl.1 rfl (Nat.le_of_ble_eq_true rfl) dX2_writeOutput_54 ⟨Nat.le_of_ble_eq_true rfl, Nat.le_of_ble_eq_true rfl⟩ (fun u54 H locs p54 hW => ?_)
            obtain ⟨aw2_54, an2_54, w2_54, nw2_54⟩ := u54
            have hW : Wd D A s [(m0, .inr (2, [.ref mc, .ref mb, .long ((lN ((pl + i) / 2 ^ 6))), .int (ln), .int ((fl ||| (nI (8)))), .ref mv, .ref aw2_54, .ref an2_54])), (mc, .inl (cy 0, 8, .inl (ch))), (mb, .inl (cy 0, 16, .inl (bl))), (mv, .inl (cy 0, 16, .inl (mixV ch bl (lN ((pl + i) / 2 ^ 6)) ln (fl ||| (nI (8)))))), (aw2_54, .inl (cy 0, 16, .inl (w2_54))), (an2_54, .inl (cy 0, 16, .inl (nw2_54))), (b0, .inr (0, [.ref b1, .int (nI (i))])), (b1, .inl (cy 1, n0, .inl (apG f 0 (fun k => b8 (outB ch bl ln (fl ||| (nI (8))) (pl + k))) i)))] H locs := hW
            refine lv_aload_n hx hb dX2_writeOutput_57 rfl (lv_at hl 2 rfl) ?_
            refine lv_aload_n hx hb dX2_writeOutput_58 rfl (lv_at hl 1 rfl) ?_
            refine lv_iload hx hb dX2_writeOutput_59 (lv_at hl 0 rfl) ?_
            refine kVi (As := [.int (nI ((pl + i) % 2 ^ 6))]) (rest := [.ref b0]) S0 hK hst hA hW [0, 3] (fun sz => c_X2_outputByte l D cy t m0 mc mb mv aw2_54 an2_54 ((lN ((pl + i) / 2 ^ 6))) ln ((fl ||| (nI (8)))) (mixV ch bl (lN ((pl + i) / 2 ^ 6)) ln (fl ||| (nI (8)))) ((pl + i) % 2 ^ 6) (by omega) sz) rfl (by decide) (cwV 1 hts gX2_writeOutput_X2_outputByte rfl rfl rfl (by decide +kernel) ⟨Nat.le_of_ble_eq_true rfl, Nat.le_of_ble_eq_true rfl⟩) (fun _ => rfl) 0 2 rfl rfl rfl hl.1 rfl (Nat.le_of_ble_eq_true rfl) dX2_writeOutput_61 ⟨Nat.le_of_ble_eq_true rfl, Nat.le_of_ble_eq_true rfl⟩ (fun r61 u61 H locs p61 hW => ?_)
            have hW : Wd D A s [(m0, .inr (2, [.ref mc, .ref mb, .long (((lN ((pl + i) / 2 ^ 6)))), .int (ln), .int (((fl ||| (nI (8))))), .ref mv, .ref aw2_54, .ref an2_54])), (mc, .inl (cy 0, 8, .inl (ch))), (mb, .inl (cy 0, 16, .inl (bl))), (mv, .inl (cy 0, 16, .inl ((mixV ch bl (lN ((pl + i) / 2 ^ 6)) ln (fl ||| (nI (8))))))), (aw2_54, .inl (cy 0, 16, .inl (w2_54))), (an2_54, .inl (cy 0, 16, .inl (nw2_54))), (b0, .inr (0, [.ref b1, .int (nI (i))])), (b1, .inl (cy 1, n0, .inl (apG f 0 (fun k => b8 (outB ch bl ln (fl ||| (nI (8))) (pl + k))) i)))] H locs := hW
            have q61 : r61 = oby (mixV ch bl (lN ((pl + i) / 2 ^ 6)) ln (fl ||| (nI (8)))) ((pl + i) % 2 ^ 6) := p61
            subst q61
            refine tI (x' := outB ch bl ln (fl ||| (nI (8))) (pl + i)) (by first | rfl | (rw [hv (by omega), show (pl + (i - 1)) / 2 ^ 6 = (pl + i) / 2 ^ 6 from by omega]; rfl)) ?_
            refine kVv (As := [.int (outB ch bl ln (fl ||| (nI (8))) (pl + i))]) (rest := []) S0 hK hst hA hW [6, 7] (fun sz => c_X0_append l D cy t b0 b1 n0 i (apG f 0 (fun k => b8 (outB ch bl ln (fl ||| (nI (8))) (pl + k))) i) (outB ch bl ln (fl ||| (nI (8))) (pl + i)) (by omega) (by omega) sz) rfl (by decide) (cwV 1 hts gX2_writeOutput_X0_append rfl rfl rfl (by decide +kernel) ⟨Nat.le_of_ble_eq_true rfl, Nat.le_of_ble_eq_true rfl⟩) (fun _ => rfl) 0 0 rfl rfl rfl hl.1 rfl (Nat.le_of_ble_eq_true rfl) dX2_writeOutput_64 ⟨Nat.le_of_ble_eq_true rfl, Nat.le_of_ble_eq_true rfl⟩ (fun u64 H locs p64 hW => ?_)
            have hW : Wd D A s [(m0, .inr (2, [.ref mc, .ref mb, .long (((lN ((pl + i) / 2 ^ 6)))), .int (ln), .int (((fl ||| (nI (8))))), .ref mv, .ref aw2_54, .ref an2_54])), (mc, .inl (cy 0, 8, .inl (ch))), (mb, .inl (cy 0, 16, .inl (bl))), (mv, .inl (cy 0, 16, .inl ((mixV ch bl (lN ((pl + i) / 2 ^ 6)) ln (fl ||| (nI (8))))))), (aw2_54, .inl (cy 0, 16, .inl (w2_54))), (an2_54, .inl (cy 0, 16, .inl (nw2_54))), (b0, .inr (0, [.ref b1, .int (nI (i + 1))])), (b1, .inl (cy 1, n0, .inl (upd (apG f 0 (fun k => b8 (outB ch bl ln (fl ||| (nI (8))) (pl + k))) i) i (b8 (outB ch bl ln (fl ||| (nI (8))) (pl + i))))))] H locs := hW
            rw [show (upd (apG f 0 (fun k => b8 (outB ch bl ln (fl ||| (nI (8))) (pl + k))) i) i (b8 (outB ch bl ln (fl ||| (nI (8))) (pl + i)))) = (apG f 0 (fun k => b8 (outB ch bl ln (fl ||| (nI (8))) (pl + k))) (i + 1)) from by rw [← apG_s f 0 (fun k => b8 (outB ch bl ln (fl ||| (nI (8))) (pl + k))) i, Nat.zero_add]] at hW
            have hW : Wd D A s [(m0, .inr (2, [.ref mc, .ref mb, .long (((lN ((pl + i) / 2 ^ 6)))), .int (ln), .int (((fl ||| (nI (8))))), .ref mv, .ref aw2_54, .ref an2_54])), (mc, .inl (cy 0, 8, .inl (ch))), (mb, .inl (cy 0, 16, .inl (bl))), (mv, .inl (cy 0, 16, .inl ((mixV ch bl (lN ((pl + i) / 2 ^ 6)) ln (fl ||| (nI (8))))))), (aw2_54, .inl (cy 0, 16, .inl (w2_54))), (an2_54, .inl (cy 0, 16, .inl (nw2_54))), (b0, .inr (0, [.ref b1, .int (nI (i + 1))])), (b1, .inl (cy 1, n0, .inl (apG f 0 (fun k => b8 (outB ch bl ln (fl ||| (nI (8))) (pl + k))) (i + 1))))] H locs := hW
            refine lv_iinc (v := nI (i + 1)) (lv' := [(5, .int (nI (i + 1))), (6, .int (nI ((pl + i) % 2 ^ 6))), (0, .ref m0), (1, .ref b0), (2, .int (nI (n))), (3, .long (lN pl))]) hx hb dX2_writeOutput_67 hl (k := 5) rfl (nI_1 _) (by decide) rfl (fun ls hl => ?_)
            refine lv_goto (tgt := 13) hx hb dX2_writeOutput_70 (by decide) ?_
            exact ih (i + 1) (((lN ((pl + i) / 2 ^ 6)))) ((mixV ch bl (lN ((pl + i) / 2 ^ 6)) ln (fl ||| (nI (8))))) aw2_54 an2_54 w2_54 nw2_54 (by omega) (by omega) (fun _ => by rw [Nat.add_sub_cancel]) _ _ hW _ (lv_sub hl [2, 3, 4, 5, 0] rfl)
  rw [← apG_0 f 0 (fun k => b8 (outB ch bl ln (fl ||| (nI (8))) (pl + k)))] at hW
  exact loop13 _ 0 ct v aw an w nw (Nat.lt_succ_self _) (by omega) (fun h => absurd h (Nat.lt_irrefl 0)) _ _ hW _ (lv_sub hl [1, 2, 3, 4, 0] rfl)

set_option maxHeartbeats 4000000 in
set_option maxRecDepth 100000 in
theorem c_X2_rootBeginsWith (l : Launch) (D : va_G) (cy : Nat → ClassId) (t : Nat × Nat) (m0 : Nat) (mc : Nat) (mb : Nat) (mv : Nat) (aw : Nat) (an : Nat) (ct : Int64) (ln : Int32) (fl : Int32) (ch : Nat → Int32) (bl : Nat → Int32) (v : Nat → Int32) (w : Nat → Int32) (nw : Nat → Int32) (b0 : Nat) (b1 : Nat) (n0 : Nat) (cnt : Nat) (f : Nat → Int32) (hc : cnt ≤ n0) (hn : n0 < 2 ^ 31) (h32 : cnt = 32) (sz : Nat) : Met l yX2_rootBeginsWith wsX2_rootBeginsWith ({ frames := 2, cells := 0, slots := 0, locals := 51 }) (PcW D cy t [(m0, .inr (2, [.ref mc, .ref mb, .long (ct), .int (ln), .int (fl), .ref mv, .ref aw, .ref an])), (mc, .inl (cy 0, 8, .inl (ch))), (mb, .inl (cy 0, 16, .inl (bl))), (mv, .inl (cy 0, 16, .inl (v))), (aw, .inl (cy 0, 16, .inl (w))), (an, .inl (cy 0, 16, .inl (nw))), (b0, .inr (0, [.ref b1, .int (nI (cnt))])), (b1, .inl (cy 1, n0, .inl (f)))] [.ref m0, .ref b0] sz) (QiA D cy (fun (r : Int32) (u : (Nat) × (Nat) × (Nat → Int32) × (Nat → Int32)) => match u with | (aw2, an2, w2, nw2) => ((r = 1 ∧ ∀ k, k < 32 → oby (mixV ch bl ct ln (fl ||| (nI (8)))) k = f k &&& 255) ∨ (r = 0 ∧ ∃ k, k < 32 ∧ oby (mixV ch bl ct ln (fl ||| (nI (8)))) k ≠ f k &&& 255))) (fun u : (Nat) × (Nat) × (Nat → Int32) × (Nat → Int32) => match u with | (aw2, an2, w2, nw2) => [(m0, .inr (2, [.ref mc, .ref mb, .long (ct), .int (ln), .int ((fl ||| (nI (8)))), .ref mv, .ref aw2, .ref an2])), (mc, .inl (cy 0, 8, .inl (ch))), (mb, .inl (cy 0, 16, .inl (bl))), (mv, .inl (cy 0, 16, .inl ((mixV ch bl ct ln (fl ||| (nI (8))))))), (aw2, .inl (cy 0, 16, .inl (w2))), (an2, .inl (cy 0, 16, .inl (nw2))), (b0, .inr (0, [.ref b1, .int (nI (cnt))])), (b1, .inl (cy 1, n0, .inl (f)))]) (va_A [(m0, .inr (2, [.ref mc, .ref mb, .long (ct), .int (ln), .int (fl), .ref mv, .ref aw, .ref an])), (mc, .inl (cy 0, 8, .inl (ch))), (mb, .inl (cy 0, 16, .inl (bl))), (mv, .inl (cy 0, 16, .inl (v))), (aw, .inl (cy 0, 16, .inl (w))), (an, .inl (cy 0, 16, .inl (nw))), (b0, .inr (0, [.ref b1, .int (nI (cnt))])), (b1, .inl (cy 1, n0, .inl (f)))] sz)) 0 0 (va_A [(m0, .inr (2, [.ref mc, .ref mb, .long (ct), .int (ln), .int (fl), .ref mv, .ref aw, .ref an])), (mc, .inl (cy 0, 8, .inl (ch))), (mb, .inl (cy 0, 16, .inl (bl))), (mv, .inl (cy 0, 16, .inl (v))), (aw, .inl (cy 0, 16, .inl (w))), (an, .inl (cy 0, 16, .inl (nw))), (b0, .inr (0, [.ref b1, .int (nI (cnt))])), (b1, .inl (cy 1, n0, .inl (f)))] sz) := by
  refine M_ofW (cc := cX2_rootBeginsWith) (maxL := 3) (ret := (some .boolean)) (by decide) rfl (Nat.le_of_ble_eq_true rfl) ?_
  intro p e s m below meth c A ls args Q hQ S0 hr hlocks hnm hK hst hA hW hl
  have hx := S0.1; have hb := S0.2.1; have hml := S0.2.2.1; have hown := S0.2.2.2.1; have hts := S0.2.2.2.2
  have hl : lv_has ls 3 [(0, .ref m0), (1, .ref b0)] := hl
  refine lv_aload_n hx hb dX2_rootBeginsWith_0 rfl (lv_at hl 0 rfl) ?_
  refine kVv (As := []) (rest := []) S0 hK hst hA hW [0] (fun sz => c_X2_makeRoot l D cy t m0 mc mb mv aw an ct ln fl  sz) rfl (by decide) (cwV 0 hts gX2_rootBeginsWith_X2_makeRoot rfl rfl rfl (by decide +kernel) ⟨Nat.le_of_ble_eq_true rfl, Nat.le_of_ble_eq_true rfl⟩) (fun _ => rfl) 0 2 rfl rfl rfl hl.1 rfl (Nat.le_of_ble_eq_true rfl) dX2_rootBeginsWith_1 ⟨Nat.le_of_ble_eq_true rfl, Nat.le_of_ble_eq_true rfl⟩ (fun u1 H locs p1 hW => ?_)
  have hW : Wd D A s [(m0, .inr (2, [.ref mc, .ref mb, .long (ct), .int (ln), .int (fl ||| (nI (8))), .ref mv, .ref aw, .ref an])), (mc, .inl (cy 0, 8, .inl (ch))), (mb, .inl (cy 0, 16, .inl (bl))), (mv, .inl (cy 0, 16, .inl (v))), (aw, .inl (cy 0, 16, .inl (w))), (an, .inl (cy 0, 16, .inl (nw))), (b0, .inr (0, [.ref b1, .int (nI (cnt))])), (b1, .inl (cy 1, n0, .inl (f)))] H locs := hW
  refine lv_aload_n hx hb dX2_rootBeginsWith_4 rfl (lv_at hl 0 rfl) ?_
  refine kVv (As := []) (rest := []) S0 hK hst hA hW [0, 1, 2, 3, 4, 5] (fun sz => c_X2_run l D cy t m0 mc mb mv aw an ct ln (fl ||| (nI (8))) ch bl v w nw  sz) rfl (by decide) (cwV 0 hts gX2_rootBeginsWith_X2_run rfl rfl rfl (by decide +kernel) ⟨Nat.le_of_ble_eq_true rfl, Nat.le_of_ble_eq_true rfl⟩) (fun ⟨_, _, _, _⟩ => rfl) 0 2 rfl rfl rfl hl.1 rfl (Nat.le_of_ble_eq_true rfl) dX2_rootBeginsWith_5 ⟨Nat.le_of_ble_eq_true rfl, Nat.le_of_ble_eq_true rfl⟩ (fun u5 H locs p5 hW => ?_)
  obtain ⟨aw2_5, an2_5, w2_5, nw2_5⟩ := u5
  have hW : Wd D A s [(m0, .inr (2, [.ref mc, .ref mb, .long (ct), .int (ln), .int ((fl ||| (nI (8)))), .ref mv, .ref aw2_5, .ref an2_5])), (mc, .inl (cy 0, 8, .inl (ch))), (mb, .inl (cy 0, 16, .inl (bl))), (mv, .inl (cy 0, 16, .inl (mixV ch bl ct ln (fl ||| (nI (8)))))), (aw2_5, .inl (cy 0, 16, .inl (w2_5))), (an2_5, .inl (cy 0, 16, .inl (nw2_5))), (b0, .inr (0, [.ref b1, .int (nI (cnt))])), (b1, .inl (cy 1, n0, .inl (f)))] H locs := hW
  refine lv_iconst (v := nI (0)) hx hb dX2_rootBeginsWith_8 (by decide) ?_
  refine lv_istore_n (lv' := [(2, .int (nI (0))), (0, .ref m0), (1, .ref b0)]) hx hb dX2_rootBeginsWith_9 rfl hl (by decide) rfl (fun ls hl => ?_)
  have loop10 : ∀ (nF : Nat) (i : Nat), 32 - i < nF → (i ≤ 32) → (∀ k, k < i → oby (mixV ch bl ct ln (fl ||| (nI (8)))) k = f k &&& 255) → ∀ (H : Heap) (locs : List Loc), Wd D A s [(m0, .inr (2, [.ref mc, .ref mb, .long (ct), .int (ln), .int ((fl ||| (nI (8)))), .ref mv, .ref aw2_5, .ref an2_5])), (mc, .inl (cy 0, 8, .inl (ch))), (mb, .inl (cy 0, 16, .inl (bl))), (mv, .inl (cy 0, 16, .inl (mixV ch bl ct ln (fl ||| (nI (8)))))), (aw2_5, .inl (cy 0, 16, .inl (w2_5))), (an2_5, .inl (cy 0, 16, .inl (nw2_5))), (b0, .inr (0, [.ref b1, .int (nI (cnt))])), (b1, .inl (cy 1, n0, .inl (f)))] H locs → ∀ ls : Array Slot, lv_has ls 3 [(0, .ref m0), (1, .ref b0), (2, .int (nI (i)))] → W p l e ({ frames := 2, cells := 0, slots := 0, locals := 51 }) s m args below meth c H locs 0 0 Q (F0 m 10 ls []) := by
    intro nF
    induction nF with
    | zero => intro i hf; exact absurd hf (Nat.not_lt_zero _)
    | succ nF ih =>
      intro i hf hi hq H locs hW ls hl
      refine lv_iload_n hx hb dX2_rootBeginsWith_10 rfl (lv_at hl 2 rfl) ?_
      refine lv_bipush (v := nI (32)) hx hb dX2_rootBeginsWith_11 (by decide) ?_
      refine iGe (a := i) (b := 32) (tgt := 37) hx hb dX2_rootBeginsWith_13 (by decide) (by omega) (by omega) (fun h13 => ?_) (fun h13 => ?_)
      · skip
        refine lv_iconst (v := nI (1)) hx hb dX2_rootBeginsWith_37 (by decide) ?_
        exact eZ hQ hx hb hr hlocks hK hW (aw2_5, an2_5, w2_5, nw2_5) (Or.inl ⟨rfl, fun k hk => hq k (by omega)⟩) (rfl) (by decide) dX2_rootBeginsWith_38
      · skip
        refine lv_aload_n hx hb dX2_rootBeginsWith_16 rfl (lv_at hl 0 rfl) ?_
        refine lv_iload_n hx hb dX2_rootBeginsWith_17 rfl (lv_at hl 2 rfl) ?_
        refine kVi (As := [.int (nI (i))]) (rest := []) S0 hK hst hA hW [0, 3] (fun sz => c_X2_outputByte l D cy t m0 mc mb mv aw2_5 an2_5 ct ln ((fl ||| (nI (8)))) (mixV ch bl ct ln (fl ||| (nI (8)))) i (by omega) sz) rfl (by decide) (cwV 1 hts gX2_rootBeginsWith_X2_outputByte rfl rfl rfl (by decide +kernel) ⟨Nat.le_of_ble_eq_true rfl, Nat.le_of_ble_eq_true rfl⟩) (fun _ => rfl) 0 2 rfl rfl rfl hl.1 rfl (Nat.le_of_ble_eq_true rfl) dX2_rootBeginsWith_18 ⟨Nat.le_of_ble_eq_true rfl, Nat.le_of_ble_eq_true rfl⟩ (fun r18 u18 H locs p18 hW => ?_)
        have hW : Wd D A s [(m0, .inr (2, [.ref mc, .ref mb, .long (ct), .int (ln), .int (((fl ||| (nI (8))))), .ref mv, .ref aw2_5, .ref an2_5])), (mc, .inl (cy 0, 8, .inl (ch))), (mb, .inl (cy 0, 16, .inl (bl))), (mv, .inl (cy 0, 16, .inl ((mixV ch bl ct ln (fl ||| (nI (8))))))), (aw2_5, .inl (cy 0, 16, .inl (w2_5))), (an2_5, .inl (cy 0, 16, .inl (nw2_5))), (b0, .inr (0, [.ref b1, .int (nI (cnt))])), (b1, .inl (cy 1, n0, .inl (f)))] H locs := hW
        have q18 : r18 = oby (mixV ch bl ct ln (fl ||| (nI (8)))) i := p18
        subst q18
        refine lv_aload_n hx hb dX2_rootBeginsWith_21 rfl (lv_at hl 1 rfl) ?_
        refine lv_iload_n hx hb dX2_rootBeginsWith_22 rfl (lv_at hl 2 rfl) ?_
        refine kVi (As := [.int (nI (i))]) (rest := [.int (oby (mixV ch bl ct ln (fl ||| (nI (8)))) i)]) S0 hK hst hA hW [6, 7] (fun sz => c_X0_byteAt l D cy t b0 b1 n0 cnt f (nI (i)) (by omega) (by omega) sz) rfl (by decide) (cwV 1 hts gX2_rootBeginsWith_X0_byteAt rfl rfl rfl (by decide +kernel) ⟨Nat.le_of_ble_eq_true rfl, Nat.le_of_ble_eq_true rfl⟩) (fun _ => rfl) 0 0 rfl rfl rfl hl.1 rfl (Nat.le_of_ble_eq_true rfl) dX2_rootBeginsWith_23 ⟨Nat.le_of_ble_eq_true rfl, Nat.le_of_ble_eq_true rfl⟩ (fun r23 u23 H locs p23 hW => ?_)
        have hW : Wd D A s [(m0, .inr (2, [.ref mc, .ref mb, .long (ct), .int (ln), .int (((fl ||| (nI (8))))), .ref mv, .ref aw2_5, .ref an2_5])), (mc, .inl (cy 0, 8, .inl (ch))), (mb, .inl (cy 0, 16, .inl (bl))), (mv, .inl (cy 0, 16, .inl ((mixV ch bl ct ln (fl ||| (nI (8))))))), (aw2_5, .inl (cy 0, 16, .inl (w2_5))), (an2_5, .inl (cy 0, 16, .inl (nw2_5))), (b0, .inr (0, [.ref b1, .int (nI (cnt))])), (b1, .inl (cy 1, n0, .inl (f)))] H locs := hW
        have q23 : r23 = byt f cnt (nI (i)) := p23
        subst q23
        refine tI (x' := f i &&& 255) (byt_in (by omega) (by omega)) ?_
        refine lv_icmp_eq (tgt := 31) hx hb dX2_rootBeginsWith_26 (by decide) (fun h26 => ?_) (fun h26 => ?_)
        · skip
          refine lv_iinc (v := nI (i + 1)) (lv' := [(2, .int (nI (i + 1))), (0, .ref m0), (1, .ref b0)]) hx hb dX2_rootBeginsWith_31 hl (k := 2) rfl (nI_1 _) (by decide) rfl (fun ls hl => ?_)
          refine lv_goto (tgt := 10) hx hb dX2_rootBeginsWith_34 (by decide) ?_
          exact ih (i + 1) (by omega) (by omega) (lt_s hq h26) _ _ hW _ (lv_sub hl [1, 2, 0] rfl)
        · skip
          refine lv_iconst (v := nI (0)) hx hb dX2_rootBeginsWith_29 (by decide) ?_
          exact eZ hQ hx hb hr hlocks hK hW (aw2_5, an2_5, w2_5, nw2_5) (Or.inr ⟨rfl, i, by omega, h26⟩) (rfl) (by decide) dX2_rootBeginsWith_30
  exact loop10 _ 0 (Nat.lt_succ_self _) (by omega) (lt_0) _ _ hW _ (lv_sub hl [1, 2, 0] rfl)
end
section
/-! the tree, as numbers -/
def fst0 (bk : Nat) : Nat := if bk = 0 then 1 else 0
theorem fst0_0 {b : Nat} (h : b = 0) : nI 1 = nI (fst0 b) := by rw [show fst0 b = 1 from if_pos h]
theorem fst0_1 {b : Nat} (h : b ≠ 0) : nI 0 = nI (fst0 b) := by rw [show fst0 b = 0 from if_neg h]
def pcF : Nat → Nat → Nat
  | 0, _ => 0
  | k + 1, n => n % 2 + pcF k (n / 2)
def pcn (n : Nat) : Nat := pcF 20 n
theorem pcF_st : ∀ (k n : Nat), n < 2 ^ k → pcF (k + 1) n = pcF k n
  | 0, n, h => by
    have : n = 0 := by simpa using h
    subst this
    rfl
  | k + 1, n, h => by
    show n % 2 + pcF (k + 1) (n / 2) = n % 2 + pcF k (n / 2)
    rw [pcF_st k (n / 2) (by rw [Nat.pow_succ] at h; omega)]
theorem pcn_2 {m : Nat} (h : m < 2 ^ 19) : pcn (2 * m) = pcn m := by
  show 2 * m % 2 + pcF 19 (2 * m / 2) = pcF 20 m
  rw [pcF_st 19 m h, show 2 * m / 2 = m from by omega, show 2 * m % 2 = 0 from by omega, Nat.zero_add]
theorem pcn_21 {m : Nat} (h : m < 2 ^ 19) : pcn (2 * m + 1) = pcn m + 1 := by
  show (2 * m + 1) % 2 + pcF 19 ((2 * m + 1) / 2) = pcF 20 m + 1
  rw [pcF_st 19 m h, show (2 * m + 1) / 2 = m from by omega, show (2 * m + 1) % 2 = 1 from by omega, Nat.add_comm]
theorem pcn_0 : pcn 0 = 0 := by decide
theorem pcn_40 : ∀ n, n < 40 → pcn n ≤ 5 := by decide +kernel
theorem pcn_pos {n : Nat} (h : n < 2 ^ 19) (h0 : pcn n = 0) : n = 0 := by
  induction n using Nat.strongRecOn with
  | ind n ih =>
    rcases Nat.mod_two_eq_zero_or_one n with q | q
    · have e : n = 2 * (n / 2) := by omega
      rw [e, pcn_2 (by omega)] at h0
      rcases Nat.eq_zero_or_pos n with z | z
      · exact z
      · have := ih (n / 2) (by omega) (by omega) h0
        omega
    · have e : n = 2 * (n / 2) + 1 := by omega
      rw [e, pcn_21 (by omega)] at h0
      omega
/-- the parent of two chains -/
def par2 (K : Nat → Int32) (bs : Int32) (x y : Nat → Int32) : Nat → Int32 := mixV K (jn x y) (lN 0) (nI 64) (bs + nI 4)
/-- trees of equal size are joined, as a counter carries: depth and chain -/
def mg (K : Nat → Int32) (bs : Int32) (S : Nat → Nat → Int32) (d tr : Nat) (v : Nat → Int32) : Nat × (Nat → Int32) :=
  if h : tr % 2 = 0 ∧ 0 < tr then mg K bs S (d - 1) (tr / 2) (par2 K bs (S (d - 1)) v) else (d, v)
termination_by tr
decreasing_by omega
theorem mg_e {K : Nat → Int32} {bs : Int32} {S : Nat → Nat → Int32} {d tr : Nat} {v : Nat → Int32} (h : tr % 2 = 0) (h0 : 0 < tr) : mg K bs S d tr v = mg K bs S (d - 1) (tr / 2) (par2 K bs (S (d - 1)) v) := by
  rw [mg, dif_pos ⟨h, h0⟩]
theorem mg_o {K : Nat → Int32} {bs : Int32} {S : Nat → Nat → Int32} {d tr : Nat} {v : Nat → Int32} (h : tr % 2 ≠ 0) : mg K bs S d tr v = (d, v) := by
  rw [mg, dif_neg (fun q => h q.1)]
/-- the depth is the number of ones below -/
theorem pc_even {tr d : Nat} (h : d = pcn (tr - 1)) (h0 : 0 < tr) (ht : tr < 2 ^ 19) (he : tr % 2 = 0) : 0 < d ∧ d - 1 = pcn (tr / 2 - 1) := by
  have e : tr - 1 = 2 * (tr / 2 - 1) + 1 := by omega
  rw [e, pcn_21 (by omega)] at h
  omega
theorem mg_pc {K : Nat → Int32} {bs : Int32} {S : Nat → Nat → Int32} : ∀ (tr d : Nat) (v : Nat → Int32), d = pcn (tr - 1) → 0 < tr → tr < 2 ^ 19 → (mg K bs S d tr v).1 + 1 = pcn tr := by
  intro tr
  induction tr using Nat.strongRecOn with
  | ind tr ih =>
    intro d v hd h0 ht
    rcases Nat.mod_two_eq_zero_or_one tr with q | q
    · rw [mg_e q h0, ih (tr / 2) (by omega) (d - 1) _ (pc_even hd h0 ht q).2 (by omega) (by omega), ← pcn_2 (by omega), show 2 * (tr / 2) = tr from by omega]
    · rw [mg_o (by omega)]
      have e : tr = 2 * (tr / 2) + 1 := by omega
      have e2 : tr - 1 = 2 * (tr / 2) := by omega
      show d + 1 = pcn tr
      rw [hd, e2, pcn_2 (by omega)]
      conv => rhs; rw [e]
      rw [pcn_21 (by omega)]
theorem mg_le {K : Nat → Int32} {bs : Int32} {S : Nat → Nat → Int32} : ∀ (tr d : Nat) (v : Nat → Int32), (mg K bs S d tr v).1 ≤ d := by
  intro tr
  induction tr using Nat.strongRecOn with
  | ind tr ih =>
    intro d v
    by_cases q : tr % 2 = 0 ∧ 0 < tr
    · rw [mg_e q.1 q.2]
      exact Nat.le_trans (ih (tr / 2) (by omega) (d - 1) _) (Nat.sub_le _ _)
    · rw [mg, dif_neg q]
      exact Nat.le_refl _
/-- a node before its mix: chain, block, count, length, flags -/
abbrev Nd : Type := (Nat → Int32) × (Nat → Int32) × Int64 × Int32 × Int32
def mx (N : Nd) : Nat → Int32 := mixV N.1 N.2.1 N.2.2.1 N.2.2.2.1 N.2.2.2.2
/-- up the stack to the root's node -/
def upN (K : Nat → Int32) (bs : Int32) (S : Nat → Nat → Int32) : Nat → Nd → Nd
  | 0, N => N
  | d + 1, N => upN K bs S d (K, jn (S d) (mx N), lN 0, nI 64, bs + nI 4)
/-- the first i bytes of a block as words -/
def bwI (g : Nat → Int32) (at0 : Nat) : Nat → Nat → Int32
  | 0 => fun _ => nI 0
  | i + 1 => upd (bwI g at0 i) (i / 2 ^ 2) (bwI g at0 i (i / 2 ^ 2) ||| (g (at0 + i) <<< (nI (8 * (i % 2 ^ 2)) &&& 31)))
theorem bwI_congr {g g' : Nat → Int32} {a a' : Nat} : ∀ {i : Nat}, (∀ k, k < i → g (a + k) = g' (a' + k)) → bwI g a i = bwI g' a' i
  | 0, _ => rfl
  | i + 1, h => by
    have e := bwI_congr (i := i) (fun k hk => h k (by omega))
    show upd (bwI g a i) _ _ = upd (bwI g' a' i) _ _
    rw [e, h i (by omega)]
/-- the chain of a chunk before its block b: bytes from at0 on, the chunk's number nu -/
def ccv (K : Nat → Int32) (bs : Int32) (g : Nat → Int32) (at0 nu : Nat) : Nat → Nat → Int32
  | 0 => K
  | b + 1 => mixV (ccv K bs g at0 nu b) (bwI g (at0 + 64 * b) 64) (lN nu) (nI 64) ((bs + nI (fst0 b)) + nI 0)
theorem ccv_congr {K : Nat → Int32} {bs : Int32} {g g' : Nat → Int32} {a a' nu : Nat} : ∀ {b : Nat}, (∀ k, k < 64 * b → g (a + k) = g' (a' + k)) → ccv K bs g a nu b = ccv K bs g' a' nu b
  | 0, _ => rfl
  | b + 1, h => by
    have e := ccv_congr (K := K) (bs := bs) (nu := nu) (b := b) (fun k hk => h k (by omega))
    show mixV (ccv K bs g a nu b) _ _ _ _ = mixV (ccv K bs g' a' nu b) _ _ _ _
    rw [e, bwI_congr (g := g) (g' := g') (a := a + 64 * b) (a' := a' + 64 * b) (i := 64) (fun k hk => by rw [Nat.add_assoc, Nat.add_assoc]; exact h _ (by omega))]
/-- the last node of a chunk of n bytes -/
def bko (n : Nat) : Nat := (n - 1) / 64
def ndC (K : Nat → Int32) (bs : Int32) (g : Nat → Int32) (at0 nu n : Nat) : Nd := (ccv K bs g at0 nu (bko n), bwI g (at0 + 64 * bko n) (n - 64 * bko n), lN nu, nI (n - 64 * bko n), (bs + nI (fst0 (bko n))) + nI 2)
theorem ndC_congr {K : Nat → Int32} {bs : Int32} {g g' : Nat → Int32} {a a' nu n : Nat} (h : ∀ k, k < n → g (a + k) = g' (a' + k)) : ndC K bs g a nu n = ndC K bs g' a' nu n := by
  unfold ndC
  rw [ccv_congr (g := g) (g' := g') (a := a) (a' := a') (fun k hk => h k (by unfold bko at hk; omega)), bwI_congr (g := g) (g' := g') (a := a + 64 * bko n) (a' := a' + 64 * bko n) (fun k hk => by rw [Nat.add_assoc, Nat.add_assoc]; exact h _ (by omega))]
/-- depth and stack of the first c chunks; C: the chunks' chains -/
def skN (K : Nat → Int32) (bs : Int32) (C : Nat → Nat → Int32) : Nat → Nat × (Nat → Nat → Int32)
  | 0 => (0, fun _ _ => 0)
  | c + 1 => ((mg K bs (skN K bs C c).2 (skN K bs C c).1 (c + 1) (C c)).1 + 1, fun i => if i = (mg K bs (skN K bs C c).2 (skN K bs C c).1 (c + 1) (C c)).1 then (mg K bs (skN K bs C c).2 (skN K bs C c).1 (c + 1) (C c)).2 else (skN K bs C c).2 i)
theorem skN_pc {K : Nat → Int32} {bs : Int32} {C : Nat → Nat → Int32} : ∀ (c : Nat), c < 2 ^ 19 → (skN K bs C c).1 = pcn c
  | 0, _ => rfl
  | c + 1, h => mg_pc (c + 1) _ _ (skN_pc c (by omega)) (by omega) h
theorem skN_congr {K : Nat → Int32} {bs : Int32} {C C' : Nat → Nat → Int32} : ∀ {c : Nat}, (∀ k, k < c → C k = C' k) → skN K bs C c = skN K bs C' c
  | 0, _ => rfl
  | c + 1, h => by
    have e := skN_congr (K := K) (bs := bs) (c := c) (fun k hk => h k (by omega))
    show (_, _) = (_, _)
    rw [e, h c (by omega)]
/-- a stack's row holds the chains -/
def SKr (sf : Nat → Int32) (S : Nat → Nat → Int32) (d : Nat) : Prop := ∀ i, i < d → ∀ k, k < 8 → sf (i * 8 + k) = S i k
/-! a hasher that has taken t bytes -/
def clo (t : Nat) : Nat := (t - 1) / 1024
/-- the chain of whole chunk c of the bytes g, numbers from fc on -/
def chC (K : Nat → Int32) (bs : Int32) (g : Nat → Int32) (fc c : Nat) : Nat → Int32 := mx (ndC K bs g (1024 * c) (fc + c) 1024)
def skS (K : Nat → Int32) (bs : Int32) (g : Nat → Int32) (fc c : Nat) : Nat → Nat → Int32 := (skN K bs (chC K bs g fc) c).2
/-- the root's node of t bytes -/
def rtN (K : Nat → Int32) (bs : Int32) (g : Nat → Int32) (fc t : Nat) : Nd := upN K bs (skS K bs g fc (clo t)) (pcn (clo t)) (ndC K bs g (1024 * clo t) (fc + clo t) (t - 1024 * clo t))
theorem jn_ext {x x' y y' : Nat → Int32} (h : ∀ k, k < 8 → x k = x' k) (h2 : ∀ k, k < 8 → y k = y' k) : ∀ k, k < 16 → jn x y k = jn x' y' k := by
  intro k hk
  unfold jn
  by_cases q : k < 8
  · rw [if_pos q, if_pos q, h k q]
  · rw [if_neg q, if_neg q, h2 _ (by omega)]
end
section
def hbk (t : Nat) : Nat := bko (t - 1024 * clo t)
def hib (t : Nat) : Nat := t - 1024 * clo t - 64 * hbk t
def hdp (t : Nat) : Nat := pcn (clo t)
def hcf (K : Nat → Int32) (bs : Int32) (g : Nat → Int32) (fc t : Nat) : Nat → Int32 := ccv K bs g (1024 * clo t) (fc + clo t) (hbk t)
def hbf (g : Nat → Int32) (t : Nat) : Nat → Int32 := bwI g (1024 * clo t + 64 * hbk t) (hib t)
theorem h_nums (t : Nat) : 1024 * clo t + 64 * hbk t + hib t = t ∧ hib t ≤ 64 ∧ hbk t ≤ 15 := by
  unfold hib hbk bko clo
  omega
theorem h_a {t : Nat} (h : hib t ≠ 64) : clo (t + 1) = clo t ∧ hbk (t + 1) = hbk t ∧ hib (t + 1) = hib t + 1 := by
  revert h
  unfold hib hbk bko clo
  omega
theorem h_b {t : Nat} (h : hib t = 64) (h2 : hbk t ≠ 15) : clo (t + 1) = clo t ∧ hbk (t + 1) = hbk t + 1 ∧ hib (t + 1) = 1 := by
  revert h h2
  unfold hib hbk bko clo
  omega
theorem h_c {t : Nat} (h : hib t = 64) (h2 : hbk t = 15) : clo (t + 1) = clo t + 1 ∧ hbk (t + 1) = 0 ∧ hib (t + 1) = 1 ∧ t = 1024 * (clo t + 1) := by
  revert h h2
  unfold hib hbk bko clo
  omega
theorem h_a5 {g : Nat → Int32} {t : Nat} (h : hib t ≠ 64) : hbf g (t + 1) = upd (hbf g t) (hib t / 2 ^ 2) (hbf g t (hib t / 2 ^ 2) ||| (g t <<< (nI (8 * (hib t % 2 ^ 2)) &&& 31))) := by
  obtain ⟨e1, e2, e3⟩ := h_a h
  have e4 := (h_nums t).1
  show bwI g (1024 * clo (t + 1) + 64 * hbk (t + 1)) (hib (t + 1)) = _
  rw [e1, e2, e3]
  show upd _ _ _ = _
  rw [e4]
  rfl
theorem h_a4 {K : Nat → Int32} {bs : Int32} {g : Nat → Int32} {fc t : Nat} (h : hib t ≠ 64) : hcf K bs g fc (t + 1) = hcf K bs g fc t := by
  obtain ⟨e1, e2, e3⟩ := h_a h
  unfold hcf
  rw [e1, e2]
theorem h_b5 {g : Nat → Int32} {t : Nat} (h : hib (t + 1) = 1) : hbf g (t + 1) = upd (fun _ => nI 0) (0 / 2 ^ 2) ((fun _ => nI 0) (0 / 2 ^ 2) ||| (g t <<< (nI (8 * (0 % 2 ^ 2)) &&& 31))) := by
  have e4 := (h_nums (t + 1)).1
  unfold hbf
  rw [h] at e4 ⊢
  show upd _ _ _ = _
  rw [show 1024 * clo (t + 1) + 64 * hbk (t + 1) + 0 = t from by omega]
  rfl
theorem h_b4 {K : Nat → Int32} {bs : Int32} {g : Nat → Int32} {fc t : Nat} (h : hib t = 64) (h2 : hbk t ≠ 15) : hcf K bs g fc (t + 1) = mixV (hcf K bs g fc t) (hbf g t) (lN (fc + clo t)) (nI (hib t)) ((bs + nI (fst0 (hbk t))) + nI 0) := by
  obtain ⟨e1, e2, e3⟩ := h_b h h2
  unfold hcf hbf
  rw [e1, e2, h]
  rfl
theorem h_c4 {K : Nat → Int32} {bs : Int32} {g : Nat → Int32} {fc t : Nat} (h : hib t = 64) (h2 : hbk t = 15) : hcf K bs g fc (t + 1) = K := by
  obtain ⟨e1, e2, e3, -⟩ := h_c h h2
  unfold hcf
  rw [e2]
  rfl
/-- what a chunk's close mixes is the chunk's chain -/
theorem h_cV {K : Nat → Int32} {bs : Int32} {g : Nat → Int32} {fc t : Nat} (h : hib t = 64) (h2 : hbk t = 15) : mixV (hcf K bs g fc t) (hbf g t) (lN (fc + clo t)) (nI (hib t)) ((bs + nI (fst0 (hbk t))) + nI 2) = chC K bs g fc (clo t) := by
  unfold hcf hbf
  rw [h, h2]
  rfl
theorem h_cR {K : Nat → Int32} {bs : Int32} {g : Nat → Int32} {fc t : Nat} (h : hib t = 64) (h2 : hbk t = 15) (ht : t < 2 ^ 19) : hdp (t + 1) = (mg K bs (skS K bs g fc (clo t)) (hdp t) (clo t + 1) (mixV (hcf K bs g fc t) (hbf g t) (lN (fc + clo t)) (nI (hib t)) ((bs + nI (fst0 (hbk t))) + nI 2))).1 + 1 ∧ skS K bs g fc (clo (t + 1)) = fun i => if i = (mg K bs (skS K bs g fc (clo t)) (hdp t) (clo t + 1) (mixV (hcf K bs g fc t) (hbf g t) (lN (fc + clo t)) (nI (hib t)) ((bs + nI (fst0 (hbk t))) + nI 2))).1 then (mg K bs (skS K bs g fc (clo t)) (hdp t) (clo t + 1) (mixV (hcf K bs g fc t) (hbf g t) (lN (fc + clo t)) (nI (hib t)) ((bs + nI (fst0 (hbk t))) + nI 2))).2 else skS K bs g fc (clo t) i := by
  obtain ⟨e1, -, -, e4⟩ := h_c h h2
  rw [h_cV h h2]
  have e := skN_pc (K := K) (bs := bs) (C := chC K bs g fc) (clo t) (by omega)
  constructor
  · unfold hdp
    rw [e1, ← skN_pc (K := K) (bs := bs) (C := chC K bs g fc) (clo t + 1) (by omega)]
    show (mg _ _ _ (skN K bs (chC K bs g fc) (clo t)).1 _ _).1 + 1 = _
    rw [e]
    rfl
  · rw [e1]
    show (fun i => if i = (mg _ _ _ (skN K bs (chC K bs g fc) (clo t)).1 _ _).1 then (mg _ _ _ (skN K bs (chC K bs g fc) (clo t)).1 _ _).2 else _) = _
    rw [e]
    rfl
theorem SKr_push {sf v : Nat → Int32} {S : Nat → Nat → Int32} {d dp : Nat} (h : SKr sf S dp) (hd : d ≤ dp) : SKr (apG sf (d * 8) v 8) (fun i => if i = d then v else S i) (d + 1) := by
  intro i hi k hk
  show apG sf (d * 8) v 8 (i * 8 + k) = (if i = d then v else S i) k
  unfold apG
  by_cases e : i = d
  · subst e
    rw [if_pos (by omega), if_pos rfl, Nat.add_sub_cancel_left]
  · rw [if_neg (by omega), if_neg e]
    exact h i (by omega) k hk
theorem and255 (x : Int32) : (x &&& 255) &&& nI 255 = x &&& 255 := by
  apply b_ext
  intro i hi
  rw [b_and, b_and, show nI 255 = (255 : Int32) from rfl]
  cases bt x i <;> cases bt 255 i <;> rfl
theorem sub1_neg {d : Nat} (hd : d < 2 ^ 30) (h : nI d - nI 1 < 0) : d = 0 := by
  rcases Nat.eq_zero_or_pos d with z | z
  · exact z
  · rw [pk_sub (by omega)] at h
    exact absurd h (nI_pos (by omega))
theorem sub1_pos {d : Nat} (h : ¬ nI d - nI 1 < 0) : 0 < d := by
  rcases Nat.eq_zero_or_pos d with z | z
  · subst z
    exact absurd (pk_sneg (by decide) (by decide)) h
  · exact z
theorem dec1 (x : Int32) : x + Int32.ofInt (-1) = x - nI 1 := by
  rw [Int32.sub_eq_add_neg]
  rfl
theorem upN_s {K : Nat → Int32} {bs : Int32} {S : Nat → Nat → Int32} {N : Nd} : ∀ {d : Nat}, 0 < d → upN K bs S d N = upN K bs S (d - 1) (K, jn (S (d - 1)) (mx N), lN 0, nI 64, bs + nI 4)
  | d + 1, _ => rfl
end
section
set_option maxHeartbeats 4000000 in
set_option maxRecDepth 100000 in
theorem c_X1_copyWords (l : Launch) (D : va_G) (cy : Nat → ClassId) (t : Nat × Nat) (a : Nat) (b : Nat) (n : Nat) (f : Nat → Int32) (g : Nat → Int32) (hn : n < 2 ^ 31) (sz : Nat) : Met l yX1_copyWords wsX1_copyWords ({ frames := 0, cells := 0, slots := 0, locals := 0 }) (PcW D cy t [(a, .inl (cy 0, n, .inl (f))), (b, .inl (cy 0, n, .inl (g)))] [.ref a, .ref b] sz) (QvA D cy (fun u : Unit => True) (fun u : Unit => [(a, .inl (cy 0, n, .inl (f))), (b, .inl (cy 0, n, .inl (f)))]) (va_A [(a, .inl (cy 0, n, .inl (f))), (b, .inl (cy 0, n, .inl (g)))] sz)) 0 0 (va_A [(a, .inl (cy 0, n, .inl (f))), (b, .inl (cy 0, n, .inl (g)))] sz) := by
  refine M_ofW (cc := cX1_copyWords) (maxL := 3) (ret := none) (by decide) rfl (Nat.le_of_ble_eq_true rfl) ?_
  intro p e s m below meth c A ls args Q hQ S0 hr hlocks hnm hK hst hA hW hl
  have hx := S0.1; have hb := S0.2.1; have hml := S0.2.2.1; have hown := S0.2.2.2.1; have hts := S0.2.2.2.2
  have hl : lv_has ls 3 [(0, .ref a), (1, .ref b)] := hl
  refine lv_iconst (v := nI (0)) hx hb dX1_copyWords_0 (by decide) ?_
  refine lv_istore_n (lv' := [(2, .int (nI (0))), (0, .ref a), (1, .ref b)]) hx hb dX1_copyWords_1 rfl hl (by decide) rfl (fun ls hl => ?_)
  have loop2 : ∀ (nF : Nat) (i : Nat), n - i < nF → (i ≤ n) → ∀ (H : Heap) (locs : List Loc), Wd D A s [(a, .inl (cy 0, n, .inl (f))), (b, .inl (cy 0, n, .inl (apG g 0 f i)))] H locs → ∀ ls : Array Slot, lv_has ls 3 [(0, .ref a), (1, .ref b), (2, .int (nI (i)))] → W p l e ({ frames := 0, cells := 0, slots := 0, locals := 0 }) s m args below meth c H locs 0 0 Q (F0 m 2 ls []) := by
    intro nF
    induction nF with
    | zero => intro i hf; exact absurd hf (Nat.not_lt_zero _)
    | succ nF ih =>
      intro i hf hi H locs hW ls hl
      refine lv_iload_n hx hb dX1_copyWords_2 rfl (lv_at hl 2 rfl) ?_
      refine lv_aload_n hx hb dX1_copyWords_3 rfl (lv_at hl 1 rfl) ?_
      refine alI hx hb hK hW 1 0 (ci := 0) rfl rfl dX1_copyWords_4 ?_
      refine iGe (a := i) (b := n) (tgt := 26) hx hb dX1_copyWords_5 (by decide) (by omega) (by omega) (fun h5 => ?_) (fun h5 => ?_)
      · skip
        have e9 : i = n := by omega
        rw [e9] at hW
        have hW := Wd.ext hW 1 rfl f apG_all
        exact eV hQ hx hb hr hlocks hK hW () (trivial) (rfl) dX1_copyWords_26
      · skip
        refine lv_iload_n hx hb dX1_copyWords_8 rfl (lv_at hl 2 rfl) ?_
        refine lv_aload_n hx hb dX1_copyWords_9 rfl (lv_at hl 0 rfl) ?_
        refine alI hx hb hK hW 0 0 (ci := 0) rfl rfl dX1_copyWords_10 ?_
        refine iGe (a := i) (b := n) (tgt := 26) hx hb dX1_copyWords_11 (by decide) (by omega) (by omega) (fun h11 => ?_) (fun h11 => ?_)
        · skip
          exfalso; omega
        · skip
          refine lv_aload_n hx hb dX1_copyWords_14 rfl (lv_at hl 1 rfl) ?_
          refine lv_iload_n hx hb dX1_copyWords_15 rfl (lv_at hl 2 rfl) ?_
          refine lv_aload_n hx hb dX1_copyWords_16 rfl (lv_at hl 0 rfl) ?_
          refine lv_iload_n hx hb dX1_copyWords_17 rfl (lv_at hl 2 rfl) ?_
          refine rI hx hb hK hW 0 rfl (k := i) (by omega) (by omega) dX1_copyWords_18 ?_
          refine wI hx hb hK hW 1 rfl (k := i) (by omega) (by omega) dX1_copyWords_19 (fun H locs hW => ?_)
          have hW : Wd D A s [(a, .inl (cy 0, n, .inl (f))), (b, .inl (cy 0, n, .inl (upd (apG g 0 f i) i (f i))))] H locs := hW
          rw [show (upd (apG g 0 f i) i (f i)) = (apG g 0 f (i + 1)) from by rw [← apG_s g 0 f i, Nat.zero_add]] at hW
          have hW : Wd D A s [(a, .inl (cy 0, n, .inl (f))), (b, .inl (cy 0, n, .inl (apG g 0 f (i + 1))))] H locs := hW
          refine lv_iinc (v := nI (i + 1)) (lv' := [(2, .int (nI (i + 1))), (0, .ref a), (1, .ref b)]) hx hb dX1_copyWords_20 hl (k := 2) rfl (nI_1 _) (by decide) rfl (fun ls hl => ?_)
          refine lv_goto (tgt := 2) hx hb dX1_copyWords_23 (by decide) ?_
          exact ih (i + 1) (by omega) (by omega) _ _ hW _ (lv_sub hl [1, 2, 0] rfl)
  rw [← apG_0 g 0 f] at hW
  exact loop2 _ 0 (Nat.lt_succ_self _) (by omega) _ _ hW _ (lv_sub hl [1, 2, 0] rfl)

set_option maxHeartbeats 4000000 in
set_option maxRecDepth 100000 in
theorem c_X1_copyWords_s (l : Launch) (D : va_G) (cy : Nat → ClassId) (t : Nat × Nat) (b : Nat) (g : Nat → Int32)  (sz : Nat) : Met l yX1_copyWords wsX1_copyWords ({ frames := 0, cells := 0, slots := 0, locals := 0 }) (PcW D cy t [(b, .inl (cy 0, 8, .inl (g)))] [.ref t.1, .ref b] sz) (QvA D cy (fun u : Unit => True) (fun u : Unit => [(b, .inl (cy 0, 8, .inl (stA)))]) (va_A [(b, .inl (cy 0, 8, .inl (g)))] sz)) 0 0 (va_A [(b, .inl (cy 0, 8, .inl (g)))] sz) := by
  refine M_ofW (cc := cX1_copyWords) (maxL := 3) (ret := none) (by decide) rfl (Nat.le_of_ble_eq_true rfl) ?_
  intro p e s m below meth c A ls args Q hQ S0 hr hlocks hnm hK hst hA hW hl
  have hx := S0.1; have hb := S0.2.1; have hml := S0.2.2.1; have hown := S0.2.2.2.1; have hts := S0.2.2.2.2
  have hl : lv_has ls 3 [(0, .ref t.1), (1, .ref b)] := hl
  refine lv_iconst (v := nI (0)) hx hb dX1_copyWords_0 (by decide) ?_
  refine lv_istore_n (lv' := [(2, .int (nI (0))), (0, .ref t.1), (1, .ref b)]) hx hb dX1_copyWords_1 rfl hl (by decide) rfl (fun ls hl => ?_)
  have loop2 : ∀ (nF : Nat) (i : Nat), 8 - i < nF → (i ≤ 8) → ∀ (H : Heap) (locs : List Loc), Wd D A s [(b, .inl (cy 0, 8, .inl (apG g 0 stA i)))] H locs → ∀ ls : Array Slot, lv_has ls 3 [(0, .ref t.1), (1, .ref b), (2, .int (nI (i)))] → W p l e ({ frames := 0, cells := 0, slots := 0, locals := 0 }) s m args below meth c H locs 0 0 Q (F0 m 2 ls []) := by
    intro nF
    induction nF with
    | zero => intro i hf; exact absurd hf (Nat.not_lt_zero _)
    | succ nF ih =>
      intro i hf hi H locs hW ls hl
      refine lv_iload_n hx hb dX1_copyWords_2 rfl (lv_at hl 2 rfl) ?_
      refine lv_aload_n hx hb dX1_copyWords_3 rfl (lv_at hl 1 rfl) ?_
      refine alI hx hb hK hW 0 0 (ci := 0) rfl rfl dX1_copyWords_4 ?_
      refine iGe (a := i) (b := 8) (tgt := 26) hx hb dX1_copyWords_5 (by decide) (by omega) (by omega) (fun h5 => ?_) (fun h5 => ?_)
      · skip
        have e9 : i = 8 := by omega
        rw [e9] at hW
        have hW := Wd.ext hW 0 rfl stA apG_all
        exact eV hQ hx hb hr hlocks hK hW () (trivial) (rfl) dX1_copyWords_26
      · skip
        refine lv_iload_n hx hb dX1_copyWords_8 rfl (lv_at hl 2 rfl) ?_
        refine lv_aload_n hx hb dX1_copyWords_9 rfl (lv_at hl 0 rfl) ?_
        refine va_tlen hx hb hst.1.2 hW.2.2 (v := nI 8) (by decide) dX1_copyWords_10 ?_
        refine iGe (a := i) (b := 8) (tgt := 26) hx hb dX1_copyWords_11 (by decide) (by omega) (by omega) (fun h11 => ?_) (fun h11 => ?_)
        · skip
          exfalso; omega
        · skip
          refine lv_aload_n hx hb dX1_copyWords_14 rfl (lv_at hl 1 rfl) ?_
          refine lv_iload_n hx hb dX1_copyWords_15 rfl (lv_at hl 2 rfl) ?_
          refine lv_aload_n hx hb dX1_copyWords_16 rfl (lv_at hl 0 rfl) ?_
          refine lv_iload_n hx hb dX1_copyWords_17 rfl (lv_at hl 2 rfl) ?_
          refine rS (g := stA) hx hb hst.1.2 hW (k := i) (n := 8) (by omega) (by decide) dX1_copyWords_18 ?_
          refine wI hx hb hK hW 0 rfl (k := i) (by omega) (by omega) dX1_copyWords_19 (fun H locs hW => ?_)
          have hW : Wd D A s [(b, .inl (cy 0, 8, .inl (upd (apG g 0 stA i) i (stA i))))] H locs := hW
          rw [show (upd (apG g 0 stA i) i (stA i)) = (apG g 0 stA (i + 1)) from by rw [← apG_s g 0 stA i, Nat.zero_add]] at hW
          have hW : Wd D A s [(b, .inl (cy 0, 8, .inl (apG g 0 stA (i + 1))))] H locs := hW
          refine lv_iinc (v := nI (i + 1)) (lv' := [(2, .int (nI (i + 1))), (0, .ref t.1), (1, .ref b)]) hx hb dX1_copyWords_20 hl (k := 2) rfl (nI_1 _) (by decide) rfl (fun ls hl => ?_)
          refine lv_goto (tgt := 2) hx hb dX1_copyWords_23 (by decide) ?_
          exact ih (i + 1) (by omega) (by omega) _ _ hW _ (lv_sub hl [1, 2, 0] rfl)
  rw [← apG_0 g 0 stA] at hW
  exact loop2 _ 0 (Nat.lt_succ_self _) (by omega) _ _ hW _ (lv_sub hl [1, 2, 0] rfl)

set_option maxHeartbeats 4000000 in
set_option maxRecDepth 100000 in
theorem c_X1_copyWords_a (l : Launch) (D : va_G) (cy : Nat → ClassId) (t : Nat × Nat) (a : Nat) (n : Nat) (f : Nat → Int32) (hn : n < 2 ^ 31) (sz : Nat) : Met l yX1_copyWords wsX1_copyWords ({ frames := 0, cells := 0, slots := 0, locals := 0 }) (PcW D cy t [(a, .inl (cy 0, n, .inl (f)))] [.ref a, .ref a] sz) (QvA D cy (fun u : Unit => True) (fun u : Unit => [(a, .inl (cy 0, n, .inl (f)))]) (va_A [(a, .inl (cy 0, n, .inl (f)))] sz)) 0 0 (va_A [(a, .inl (cy 0, n, .inl (f)))] sz) := by
  refine M_ofW (cc := cX1_copyWords) (maxL := 3) (ret := none) (by decide) rfl (Nat.le_of_ble_eq_true rfl) ?_
  intro p e s m below meth c A ls args Q hQ S0 hr hlocks hnm hK hst hA hW hl
  have hx := S0.1; have hb := S0.2.1; have hml := S0.2.2.1; have hown := S0.2.2.2.1; have hts := S0.2.2.2.2
  have hl : lv_has ls 3 [(0, .ref a), (1, .ref a)] := hl
  refine lv_iconst (v := nI (0)) hx hb dX1_copyWords_0 (by decide) ?_
  refine lv_istore_n (lv' := [(2, .int (nI (0))), (0, .ref a), (1, .ref a)]) hx hb dX1_copyWords_1 rfl hl (by decide) rfl (fun ls hl => ?_)
  have loop2 : ∀ (nF : Nat) (i : Nat), n - i < nF → (i ≤ n) → ∀ (H : Heap) (locs : List Loc), Wd D A s [(a, .inl (cy 0, n, .inl (f)))] H locs → ∀ ls : Array Slot, lv_has ls 3 [(0, .ref a), (1, .ref a), (2, .int (nI (i)))] → W p l e ({ frames := 0, cells := 0, slots := 0, locals := 0 }) s m args below meth c H locs 0 0 Q (F0 m 2 ls []) := by
    intro nF
    induction nF with
    | zero => intro i hf; exact absurd hf (Nat.not_lt_zero _)
    | succ nF ih =>
      intro i hf hi H locs hW ls hl
      refine lv_iload_n hx hb dX1_copyWords_2 rfl (lv_at hl 2 rfl) ?_
      refine lv_aload_n hx hb dX1_copyWords_3 rfl (lv_at hl 1 rfl) ?_
      refine alI hx hb hK hW 0 0 (ci := 0) rfl rfl dX1_copyWords_4 ?_
      refine iGe (a := i) (b := n) (tgt := 26) hx hb dX1_copyWords_5 (by decide) (by omega) (by omega) (fun h5 => ?_) (fun h5 => ?_)
      · skip
        exact eV hQ hx hb hr hlocks hK hW () (trivial) (rfl) dX1_copyWords_26
      · skip
        refine lv_iload_n hx hb dX1_copyWords_8 rfl (lv_at hl 2 rfl) ?_
        refine lv_aload_n hx hb dX1_copyWords_9 rfl (lv_at hl 0 rfl) ?_
        refine alI hx hb hK hW 0 0 (ci := 0) rfl rfl dX1_copyWords_10 ?_
        refine iGe (a := i) (b := n) (tgt := 26) hx hb dX1_copyWords_11 (by decide) (by omega) (by omega) (fun h11 => ?_) (fun h11 => ?_)
        · skip
          exfalso; omega
        · skip
          refine lv_aload_n hx hb dX1_copyWords_14 rfl (lv_at hl 1 rfl) ?_
          refine lv_iload_n hx hb dX1_copyWords_15 rfl (lv_at hl 2 rfl) ?_
          refine lv_aload_n hx hb dX1_copyWords_16 rfl (lv_at hl 0 rfl) ?_
          refine lv_iload_n hx hb dX1_copyWords_17 rfl (lv_at hl 2 rfl) ?_
          refine rI hx hb hK hW 0 rfl (k := i) (by omega) (by omega) dX1_copyWords_18 ?_
          refine wI hx hb hK hW 0 rfl (k := i) (by omega) (by omega) dX1_copyWords_19 (fun H locs hW => ?_)
          have hW : Wd D A s [(a, .inl (cy 0, n, .inl (upd f i (f i))))] H locs := hW
          rw [show (upd f i (f i)) = (f) from upd_self f i] at hW
          have hW : Wd D A s [(a, .inl (cy 0, n, .inl (f)))] H locs := hW
          refine lv_iinc (v := nI (i + 1)) (lv' := [(2, .int (nI (i + 1))), (0, .ref a), (1, .ref a)]) hx hb dX1_copyWords_20 hl (k := 2) rfl (nI_1 _) (by decide) rfl (fun ls hl => ?_)
          refine lv_goto (tgt := 2) hx hb dX1_copyWords_23 (by decide) ?_
          exact ih (i + 1) (by omega) (by omega) _ _ hW _ (lv_sub hl [1, 2, 0] rfl)
  exact loop2 _ 0 (Nat.lt_succ_self _) (by omega) _ _ hW _ (lv_sub hl [1, 2, 0] rfl)

theorem f_X1_startBlock_0 : Cond.fieldLink RX1 28 "TreeHashes$Hasher" "block" "[I" ∈ wsX1_startBlock := by decide +kernel
theorem i_X1_startBlock_X1 : ∀ w ∈ wsX10, w ∈ wsX1_startBlock := by decide +kernel
theorem f_X1_startBlock_2 : Cond.fieldLink RX1 67 "TreeHashes$Hasher" "inBlock" "I" ∈ wsX1_startBlock := by decide +kernel
set_option maxHeartbeats 4000000 in
set_option maxRecDepth 100000 in
theorem c_X1_startBlock (l : Launch) (D : va_G) (cy : Nat → ClassId) (t : Nat × Nat) (m0 : Nat) (h0 : Nat) (qk : Nat) (qs : Nat) (qc : Nat) (qb : Nat) (md : Int32) (bs : Int32) (fc : Nat) (tk : Nat) (cl : Nat) (dp : Nat) (bk : Nat) (ib : Nat) (bf : Nat → Int32)  (sz : Nat) : Met l yX1_startBlock wsX1_startBlock ({ frames := 0, cells := 0, slots := 0, locals := 0 }) (PcW D cy t [(h0, .inr (1, [.ref m0, .ref qk, .ref qs, .ref qc, .ref qb, .int (md), .int (bs), .int (nI (fc)), .int (nI (tk)), .int (nI (cl)), .int (nI (dp)), .int (nI (bk)), .int (nI (ib))])), (qb, .inl (cy 0, 16, .inl (bf)))] [.ref h0] sz) (QvA D cy (fun u : Unit => True) (fun u : Unit => [(h0, .inr (1, [.ref m0, .ref qk, .ref qs, .ref qc, .ref qb, .int (md), .int (bs), .int (nI (fc)), .int (nI (tk)), .int (nI (cl)), .int (nI (dp)), .int (nI (bk)), .int (nI (0))])), (qb, .inl (cy 0, 16, .inl ((fun _ => nI (0)))))]) (va_A [(h0, .inr (1, [.ref m0, .ref qk, .ref qs, .ref qc, .ref qb, .int (md), .int (bs), .int (nI (fc)), .int (nI (tk)), .int (nI (cl)), .int (nI (dp)), .int (nI (bk)), .int (nI (ib))])), (qb, .inl (cy 0, 16, .inl (bf)))] sz)) 0 0 (va_A [(h0, .inr (1, [.ref m0, .ref qk, .ref qs, .ref qc, .ref qb, .int (md), .int (bs), .int (nI (fc)), .int (nI (tk)), .int (nI (cl)), .int (nI (dp)), .int (nI (bk)), .int (nI (ib))])), (qb, .inl (cy 0, 16, .inl (bf)))] sz) := by
  refine M_ofW (cc := cX1_startBlock) (maxL := 2) (ret := none) (by decide) rfl (Nat.le_of_ble_eq_true rfl) ?_
  intro p e s m below meth c A ls args Q hQ S0 hr hlocks hnm hK hst hA hW hl
  have hx := S0.1; have hb := S0.2.1; have hml := S0.2.2.1; have hown := S0.2.2.2.1; have hts := S0.2.2.2.2
  have hl : lv_has ls 2 [(0, .ref h0)] := hl
  refine lv_iconst (v := nI (0)) hx hb dX1_startBlock_0 (by decide) ?_
  refine lv_istore_n (lv' := [(1, .int (nI (0))), (0, .ref h0)]) hx hb dX1_startBlock_1 rfl hl (by decide) rfl (fun ls hl => ?_)
  have loop2 : ∀ (nF : Nat) (i : Nat), 16 - i < nF → (i ≤ 16) → ∀ (H : Heap) (locs : List Loc), Wd D A s [(h0, .inr (1, [.ref m0, .ref qk, .ref qs, .ref qc, .ref qb, .int (md), .int (bs), .int (nI (fc)), .int (nI (tk)), .int (nI (cl)), .int (nI (dp)), .int (nI (bk)), .int (nI (ib))])), (qb, .inl (cy 0, 16, .inl (apG bf 0 (fun _ => nI (0)) i)))] H locs → ∀ ls : Array Slot, lv_has ls 2 [(0, .ref h0), (1, .int (nI (i)))] → W p l e ({ frames := 0, cells := 0, slots := 0, locals := 0 }) s m args below meth c H locs 0 0 Q (F0 m 2 ls []) := by
    intro nF
    induction nF with
    | zero => intro i hf; exact absurd hf (Nat.not_lt_zero _)
    | succ nF ih =>
      intro i hf hi H locs hW ls hl
      refine lv_iload_n hx hb dX1_startBlock_2 rfl (lv_at hl 1 rfl) ?_
      refine lv_aload_n hx hb dX1_startBlock_3 rfl (lv_at hl 0 rfl) ?_
      refine va_get (D := D) (ci := 1) (v := .ref qb) (C := RX1) (T := TX1) (N := 13) hx hb hts i_X1_startBlock_X1 hown hK hW.1 0 rfl rfl 4 (by decide) (hts (.fieldLink RX1 28 "TreeHashes$Hasher" "block" "[I") f_X1_startBlock_0) (fun _ h9 => h9) rfl dX1_startBlock_4 ?_
      refine alI hx hb hK hW 1 0 (ci := 0) rfl rfl dX1_startBlock_7 ?_
      refine iGe (a := i) (b := 16) (tgt := 24) hx hb dX1_startBlock_8 (by decide) (by omega) (by omega) (fun h8 => ?_) (fun h8 => ?_)
      · skip
        refine lv_aload_n hx hb dX1_startBlock_24 rfl (lv_at hl 0 rfl) ?_
        refine lv_iconst (v := nI (0)) hx hb dX1_startBlock_25 (by decide) ?_
        refine va_put (D := D) (ci := 1) (v := .int (nI (0))) (ty := .int) (C := RX1) (T := TX1) (N := 13) hx hb hts i_X1_startBlock_X1 tyX1 tyX1_ok nmX1 hown hK hW.1 hW.2.1 hW.2.2 0 rfl rfl 12 (by decide) (hts (.fieldLink RX1 67 "TreeHashes$Hasher" "inBlock" "I") f_X1_startBlock_2) (fun _ h9 => h9) rfl (by decide +kernel) rfl rfl (Nat.le_of_ble_eq_true rfl) dX1_startBlock_26 (fun H locs hP hD hS => ?_)
        have hW : Wd D A s [(h0, .inr (1, [.ref m0, .ref qk, .ref qs, .ref qc, .ref qb, .int (md), .int (bs), .int (nI (fc)), .int (nI (tk)), .int (nI (cl)), .int (nI (dp)), .int (nI (bk)), .int (nI (0))])), (qb, .inl (cy 0, 16, .inl (apG bf 0 (fun _ => nI (0)) i)))] H locs := ⟨hP, hD, hS⟩
        have e9 : i = 16 := by omega
        rw [e9] at hW
        have hW := Wd.ext hW 1 rfl (fun _ => nI (0)) apG_all
        exact eV hQ hx hb hr hlocks hK hW () (trivial) (rfl) dX1_startBlock_29
      · skip
        refine lv_aload_n hx hb dX1_startBlock_11 rfl (lv_at hl 0 rfl) ?_
        refine va_get (D := D) (ci := 1) (v := .ref qb) (C := RX1) (T := TX1) (N := 13) hx hb hts i_X1_startBlock_X1 hown hK hW.1 0 rfl rfl 4 (by decide) (hts (.fieldLink RX1 28 "TreeHashes$Hasher" "block" "[I") f_X1_startBlock_0) (fun _ h9 => h9) rfl dX1_startBlock_12 ?_
        refine lv_iload_n hx hb dX1_startBlock_15 rfl (lv_at hl 1 rfl) ?_
        refine lv_iconst (v := nI (0)) hx hb dX1_startBlock_16 (by decide) ?_
        refine wI hx hb hK hW 1 rfl (k := i) (by omega) (by omega) dX1_startBlock_17 (fun H locs hW => ?_)
        have hW : Wd D A s [(h0, .inr (1, [.ref m0, .ref qk, .ref qs, .ref qc, .ref qb, .int (md), .int (bs), .int (nI (fc)), .int (nI (tk)), .int (nI (cl)), .int (nI (dp)), .int (nI (bk)), .int (nI (ib))])), (qb, .inl (cy 0, 16, .inl (upd (apG bf 0 (fun _ => nI (0)) i) i (nI (0)))))] H locs := hW
        rw [show (upd (apG bf 0 (fun _ => nI (0)) i) i (nI (0))) = (apG bf 0 (fun _ => nI (0)) (i + 1)) from by rw [← apG_s bf 0 (fun _ => nI (0)) i, Nat.zero_add]] at hW
        have hW : Wd D A s [(h0, .inr (1, [.ref m0, .ref qk, .ref qs, .ref qc, .ref qb, .int (md), .int (bs), .int (nI (fc)), .int (nI (tk)), .int (nI (cl)), .int (nI (dp)), .int (nI (bk)), .int (nI (ib))])), (qb, .inl (cy 0, 16, .inl (apG bf 0 (fun _ => nI (0)) (i + 1))))] H locs := hW
        refine lv_iinc (v := nI (i + 1)) (lv' := [(1, .int (nI (i + 1))), (0, .ref h0)]) hx hb dX1_startBlock_18 hl (k := 1) rfl (nI_1 _) (by decide) rfl (fun ls hl => ?_)
        refine lv_goto (tgt := 2) hx hb dX1_startBlock_21 (by decide) ?_
        exact ih (i + 1) (by omega) (by omega) _ _ hW _ (lv_sub hl [1, 0] rfl)
  rw [← apG_0 bf 0 (fun _ => nI (0))] at hW
  exact loop2 _ 0 (Nat.lt_succ_self _) (by omega) _ _ hW _ (lv_sub hl [1, 0] rfl)

theorem f_X1_startChunk_0 : Cond.fieldLink RX1 18 "TreeHashes$Hasher" "key" "[I" ∈ wsX1_startChunk := by decide +kernel
theorem i_X1_startChunk_X1 : ∀ w ∈ wsX10, w ∈ wsX1_startChunk := by decide +kernel
theorem f_X1_startChunk_2 : Cond.fieldLink RX1 25 "TreeHashes$Hasher" "chunkChain" "[I" ∈ wsX1_startChunk := by decide +kernel
theorem f_X1_startChunk_3 : Cond.fieldLink RX1 64 "TreeHashes$Hasher" "blocks" "I" ∈ wsX1_startChunk := by decide +kernel
set_option maxHeartbeats 4000000 in
set_option maxRecDepth 100000 in
theorem c_X1_startChunk (l : Launch) (D : va_G) (cy : Nat → ClassId) (t : Nat × Nat) (m0 : Nat) (h0 : Nat) (qk : Nat) (qs : Nat) (qc : Nat) (qb : Nat) (md : Int32) (bs : Int32) (fc : Nat) (tk : Nat) (cl : Nat) (dp : Nat) (bk : Nat) (ib : Nat) (kf : Nat → Int32) (cf : Nat → Int32) (bf : Nat → Int32)  (sz : Nat) : Met l yX1_startChunk wsX1_startChunk ({ frames := 1, cells := 0, slots := 0, locals := 22 }) (PcW D cy t [(h0, .inr (1, [.ref m0, .ref qk, .ref qs, .ref qc, .ref qb, .int (md), .int (bs), .int (nI (fc)), .int (nI (tk)), .int (nI (cl)), .int (nI (dp)), .int (nI (bk)), .int (nI (ib))])), (qk, .inl (cy 0, 8, .inl (kf))), (qc, .inl (cy 0, 8, .inl (cf))), (qb, .inl (cy 0, 16, .inl (bf)))] [.ref h0] sz) (QvA D cy (fun u : Unit => True) (fun u : Unit => [(h0, .inr (1, [.ref m0, .ref qk, .ref qs, .ref qc, .ref qb, .int (md), .int (bs), .int (nI (fc)), .int (nI (tk)), .int (nI (cl)), .int (nI (dp)), .int (nI (0)), .int (nI (0))])), (qk, .inl (cy 0, 8, .inl (kf))), (qc, .inl (cy 0, 8, .inl (kf))), (qb, .inl (cy 0, 16, .inl ((fun _ => nI (0)))))]) (va_A [(h0, .inr (1, [.ref m0, .ref qk, .ref qs, .ref qc, .ref qb, .int (md), .int (bs), .int (nI (fc)), .int (nI (tk)), .int (nI (cl)), .int (nI (dp)), .int (nI (bk)), .int (nI (ib))])), (qk, .inl (cy 0, 8, .inl (kf))), (qc, .inl (cy 0, 8, .inl (cf))), (qb, .inl (cy 0, 16, .inl (bf)))] sz)) 0 0 (va_A [(h0, .inr (1, [.ref m0, .ref qk, .ref qs, .ref qc, .ref qb, .int (md), .int (bs), .int (nI (fc)), .int (nI (tk)), .int (nI (cl)), .int (nI (dp)), .int (nI (bk)), .int (nI (ib))])), (qk, .inl (cy 0, 8, .inl (kf))), (qc, .inl (cy 0, 8, .inl (cf))), (qb, .inl (cy 0, 16, .inl (bf)))] sz) := by
  refine M_ofW (cc := cX1_startChunk) (maxL := 1) (ret := none) (by decide) rfl (Nat.le_of_ble_eq_true rfl) ?_
  intro p e s m below meth c A ls args Q hQ S0 hr hlocks hnm hK hst hA hW hl
  have hx := S0.1; have hb := S0.2.1; have hml := S0.2.2.1; have hown := S0.2.2.2.1; have hts := S0.2.2.2.2
  have hl : lv_has ls 1 [(0, .ref h0)] := hl
  refine lv_aload_n hx hb dX1_startChunk_0 rfl (lv_at hl 0 rfl) ?_
  refine va_get (D := D) (ci := 1) (v := .ref qk) (C := RX1) (T := TX1) (N := 13) hx hb hts i_X1_startChunk_X1 hown hK hW.1 0 rfl rfl 1 (by decide) (hts (.fieldLink RX1 18 "TreeHashes$Hasher" "key" "[I") f_X1_startChunk_0) (fun _ h9 => h9) rfl dX1_startChunk_1 ?_
  refine lv_aload_n hx hb dX1_startChunk_4 rfl (lv_at hl 0 rfl) ?_
  refine va_get (D := D) (ci := 1) (v := .ref qc) (C := RX1) (T := TX1) (N := 13) hx hb hts i_X1_startChunk_X1 hown hK hW.1 0 rfl rfl 3 (by decide) (hts (.fieldLink RX1 25 "TreeHashes$Hasher" "chunkChain" "[I") f_X1_startChunk_2) (fun _ h9 => h9) rfl dX1_startChunk_5 ?_
  refine kSv (As := [.ref qk, .ref qc]) (rest := []) S0 hK hst hA hW [1, 2] (fun sz => c_X1_copyWords l D cy t qk qc 8 kf cf (by omega) sz) rfl (by decide) (va_cwS 2 hts gX1_startChunk_X1_copyWords rfl rfl rfl (by decide +kernel) ⟨Nat.le_of_ble_eq_true rfl, Nat.le_of_ble_eq_true rfl⟩) (fun _ => rfl) rfl hl.1 rfl (Nat.le_of_ble_eq_true rfl) dX1_startChunk_8 ⟨Nat.le_of_ble_eq_true rfl, Nat.le_of_ble_eq_true rfl⟩ (fun u8 H locs p8 hW => ?_)
  have hW : Wd D A s [(h0, .inr (1, [.ref m0, .ref qk, .ref qs, .ref qc, .ref qb, .int (md), .int (bs), .int (nI (fc)), .int (nI (tk)), .int (nI (cl)), .int (nI (dp)), .int (nI (bk)), .int (nI (ib))])), (qk, .inl (cy 0, 8, .inl (kf))), (qc, .inl (cy 0, 8, .inl (kf))), (qb, .inl (cy 0, 16, .inl (bf)))] H locs := hW
  refine lv_aload_n hx hb dX1_startChunk_11 rfl (lv_at hl 0 rfl) ?_
  refine lv_iconst (v := nI (0)) hx hb dX1_startChunk_12 (by decide) ?_
  refine va_put (D := D) (ci := 1) (v := .int (nI (0))) (ty := .int) (C := RX1) (T := TX1) (N := 13) hx hb hts i_X1_startChunk_X1 tyX1 tyX1_ok nmX1 hown hK hW.1 hW.2.1 hW.2.2 0 rfl rfl 11 (by decide) (hts (.fieldLink RX1 64 "TreeHashes$Hasher" "blocks" "I") f_X1_startChunk_3) (fun _ h9 => h9) rfl (by decide +kernel) rfl rfl (Nat.le_of_ble_eq_true rfl) dX1_startChunk_13 (fun H locs hP hD hS => ?_)
  have hW : Wd D A s [(h0, .inr (1, [.ref m0, .ref qk, .ref qs, .ref qc, .ref qb, .int (md), .int (bs), .int (nI (fc)), .int (nI (tk)), .int (nI (cl)), .int (nI (dp)), .int (nI (0)), .int (nI (ib))])), (qk, .inl (cy 0, 8, .inl (kf))), (qc, .inl (cy 0, 8, .inl (kf))), (qb, .inl (cy 0, 16, .inl (bf)))] H locs := ⟨hP, hD, hS⟩
  refine lv_aload_n hx hb dX1_startChunk_16 rfl (lv_at hl 0 rfl) ?_
  refine kVv (As := []) (rest := []) S0 hK hst hA hW [0, 3] (fun sz => c_X1_startBlock l D cy t m0 h0 qk qs qc qb md bs fc tk cl dp 0 ib bf  sz) rfl (by decide) (cwV 0 hts gX1_startChunk_X1_startBlock rfl rfl rfl (by decide +kernel) ⟨Nat.le_of_ble_eq_true rfl, Nat.le_of_ble_eq_true rfl⟩) (fun _ => rfl) 0 1 rfl rfl rfl hl.1 rfl (Nat.le_of_ble_eq_true rfl) dX1_startChunk_17 ⟨Nat.le_of_ble_eq_true rfl, Nat.le_of_ble_eq_true rfl⟩ (fun u17 H locs p17 hW => ?_)
  have hW : Wd D A s [(h0, .inr (1, [.ref m0, .ref qk, .ref qs, .ref qc, .ref qb, .int (md), .int (bs), .int (nI (fc)), .int (nI (tk)), .int (nI (cl)), .int (nI (dp)), .int (nI (0)), .int (nI (0))])), (qk, .inl (cy 0, 8, .inl (kf))), (qc, .inl (cy 0, 8, .inl (kf))), (qb, .inl (cy 0, 16, .inl ((fun _ => nI (0)))))] H locs := hW
  exact eV hQ hx hb hr hlocks hK hW () (trivial) (rfl) dX1_startChunk_20

theorem f_X1_restart_0 : Cond.fieldLink RX1 18 "TreeHashes$Hasher" "key" "[I" ∈ wsX1_restart := by decide +kernel
theorem i_X1_restart_X1 : ∀ w ∈ wsX10, w ∈ wsX1_restart := by decide +kernel
theorem f_X1_restart_2 : Cond.fieldLink RX1 42 "TreeHashes$Hasher" "mode" "I" ∈ wsX1_restart := by decide +kernel
theorem f_X1_restart_3 : Cond.fieldLink RX1 46 "TreeHashes$Hasher" "base" "I" ∈ wsX1_restart := by decide +kernel
theorem f_X1_restart_4 : Cond.fieldLink RX1 49 "TreeHashes$Hasher" "firstChunk" "I" ∈ wsX1_restart := by decide +kernel
theorem f_X1_restart_5 : Cond.fieldLink RX1 52 "TreeHashes$Hasher" "taken" "I" ∈ wsX1_restart := by decide +kernel
theorem f_X1_restart_6 : Cond.fieldLink RX1 55 "TreeHashes$Hasher" "closed" "I" ∈ wsX1_restart := by decide +kernel
theorem f_X1_restart_7 : Cond.fieldLink RX1 58 "TreeHashes$Hasher" "depth" "I" ∈ wsX1_restart := by decide +kernel
set_option maxHeartbeats 4000000 in
set_option maxRecDepth 100000 in
theorem c_X1_restart (l : Launch) (D : va_G) (cy : Nat → ClassId) (t : Nat × Nat) (m0 : Nat) (h0 : Nat) (qk : Nat) (qs : Nat) (qc : Nat) (qb : Nat) (md : Int32) (bs : Int32) (fc : Nat) (tk : Nat) (cl : Nat) (dp : Nat) (bk : Nat) (ib : Nat) (kf : Nat → Int32) (cf : Nat → Int32) (bf : Nat → Int32) (md2 : Int32) (bs2 : Int32) (fc2 : Nat) (kc : Nat) (k2 : Nat → Int32)  (sz : Nat) : Met l yX1_restart wsX1_restart ({ frames := 2, cells := 0, slots := 0, locals := 42 }) (PcW D cy t [(h0, .inr (1, [.ref m0, .ref qk, .ref qs, .ref qc, .ref qb, .int (md), .int (bs), .int (nI (fc)), .int (nI (tk)), .int (nI (cl)), .int (nI (dp)), .int (nI (bk)), .int (nI (ib))])), (qk, .inl (cy 0, 8, .inl (kf))), (qc, .inl (cy 0, 8, .inl (cf))), (qb, .inl (cy 0, 16, .inl (bf))), (kc, .inl (cy 0, 8, .inl (k2)))] [.ref h0, .int (md2), .int (bs2), .ref kc, .int (nI (fc2))] sz) (QvA D cy (fun u : Unit => True) (fun u : Unit => [(h0, .inr (1, [.ref m0, .ref qk, .ref qs, .ref qc, .ref qb, .int (md2), .int (bs2), .int (nI (fc2)), .int (nI (0)), .int (nI (0)), .int (nI (0)), .int (nI (0)), .int (nI (0))])), (qk, .inl (cy 0, 8, .inl (k2))), (qc, .inl (cy 0, 8, .inl (k2))), (qb, .inl (cy 0, 16, .inl ((fun _ => nI (0))))), (kc, .inl (cy 0, 8, .inl (k2)))]) (va_A [(h0, .inr (1, [.ref m0, .ref qk, .ref qs, .ref qc, .ref qb, .int (md), .int (bs), .int (nI (fc)), .int (nI (tk)), .int (nI (cl)), .int (nI (dp)), .int (nI (bk)), .int (nI (ib))])), (qk, .inl (cy 0, 8, .inl (kf))), (qc, .inl (cy 0, 8, .inl (cf))), (qb, .inl (cy 0, 16, .inl (bf))), (kc, .inl (cy 0, 8, .inl (k2)))] sz)) 0 0 (va_A [(h0, .inr (1, [.ref m0, .ref qk, .ref qs, .ref qc, .ref qb, .int (md), .int (bs), .int (nI (fc)), .int (nI (tk)), .int (nI (cl)), .int (nI (dp)), .int (nI (bk)), .int (nI (ib))])), (qk, .inl (cy 0, 8, .inl (kf))), (qc, .inl (cy 0, 8, .inl (cf))), (qb, .inl (cy 0, 16, .inl (bf))), (kc, .inl (cy 0, 8, .inl (k2)))] sz) := by
  refine M_ofW (cc := cX1_restart) (maxL := 5) (ret := none) (by decide) rfl (Nat.le_of_ble_eq_true rfl) ?_
  intro p e s m below meth c A ls args Q hQ S0 hr hlocks hnm hK hst hA hW hl
  have hx := S0.1; have hb := S0.2.1; have hml := S0.2.2.1; have hown := S0.2.2.2.1; have hts := S0.2.2.2.2
  have hl : lv_has ls 5 [(0, .ref h0), (1, .int (md2)), (2, .int (bs2)), (3, .ref kc), (4, .int (nI (fc2)))] := hl
  refine lv_aload_n hx hb dX1_restart_0 rfl (lv_at hl 3 rfl) ?_
  refine lv_aload_n hx hb dX1_restart_1 rfl (lv_at hl 0 rfl) ?_
  refine va_get (D := D) (ci := 1) (v := .ref qk) (C := RX1) (T := TX1) (N := 13) hx hb hts i_X1_restart_X1 hown hK hW.1 0 rfl rfl 1 (by decide) (hts (.fieldLink RX1 18 "TreeHashes$Hasher" "key" "[I") f_X1_restart_0) (fun _ h9 => h9) rfl dX1_restart_2 ?_
  refine kSv (As := [.ref kc, .ref qk]) (rest := []) S0 hK hst hA hW [4, 1] (fun sz => c_X1_copyWords l D cy t kc qk 8 k2 kf (by omega) sz) rfl (by decide) (va_cwS 2 hts gX1_restart_X1_copyWords rfl rfl rfl (by decide +kernel) ⟨Nat.le_of_ble_eq_true rfl, Nat.le_of_ble_eq_true rfl⟩) (fun _ => rfl) rfl hl.1 rfl (Nat.le_of_ble_eq_true rfl) dX1_restart_5 ⟨Nat.le_of_ble_eq_true rfl, Nat.le_of_ble_eq_true rfl⟩ (fun u5 H locs p5 hW => ?_)
  have hW : Wd D A s [(h0, .inr (1, [.ref m0, .ref qk, .ref qs, .ref qc, .ref qb, .int (md), .int (bs), .int (nI (fc)), .int (nI (tk)), .int (nI (cl)), .int (nI (dp)), .int (nI (bk)), .int (nI (ib))])), (qk, .inl (cy 0, 8, .inl (k2))), (qc, .inl (cy 0, 8, .inl (cf))), (qb, .inl (cy 0, 16, .inl (bf))), (kc, .inl (cy 0, 8, .inl (k2)))] H locs := hW
  refine lv_aload_n hx hb dX1_restart_8 rfl (lv_at hl 0 rfl) ?_
  refine lv_iload_n hx hb dX1_restart_9 rfl (lv_at hl 1 rfl) ?_
  refine va_put (D := D) (ci := 1) (v := .int (md2)) (ty := .int) (C := RX1) (T := TX1) (N := 13) hx hb hts i_X1_restart_X1 tyX1 tyX1_ok nmX1 hown hK hW.1 hW.2.1 hW.2.2 0 rfl rfl 5 (by decide) (hts (.fieldLink RX1 42 "TreeHashes$Hasher" "mode" "I") f_X1_restart_2) (fun _ h9 => h9) rfl (by decide +kernel) rfl rfl (Nat.le_of_ble_eq_true rfl) dX1_restart_10 (fun H locs hP hD hS => ?_)
  have hW : Wd D A s [(h0, .inr (1, [.ref m0, .ref qk, .ref qs, .ref qc, .ref qb, .int (md2), .int (bs), .int (nI (fc)), .int (nI (tk)), .int (nI (cl)), .int (nI (dp)), .int (nI (bk)), .int (nI (ib))])), (qk, .inl (cy 0, 8, .inl (k2))), (qc, .inl (cy 0, 8, .inl (cf))), (qb, .inl (cy 0, 16, .inl (bf))), (kc, .inl (cy 0, 8, .inl (k2)))] H locs := ⟨hP, hD, hS⟩
  refine lv_aload_n hx hb dX1_restart_13 rfl (lv_at hl 0 rfl) ?_
  refine lv_iload_n hx hb dX1_restart_14 rfl (lv_at hl 2 rfl) ?_
  refine va_put (D := D) (ci := 1) (v := .int (bs2)) (ty := .int) (C := RX1) (T := TX1) (N := 13) hx hb hts i_X1_restart_X1 tyX1 tyX1_ok nmX1 hown hK hW.1 hW.2.1 hW.2.2 0 rfl rfl 6 (by decide) (hts (.fieldLink RX1 46 "TreeHashes$Hasher" "base" "I") f_X1_restart_3) (fun _ h9 => h9) rfl (by decide +kernel) rfl rfl (Nat.le_of_ble_eq_true rfl) dX1_restart_15 (fun H locs hP hD hS => ?_)
  have hW : Wd D A s [(h0, .inr (1, [.ref m0, .ref qk, .ref qs, .ref qc, .ref qb, .int (md2), .int (bs2), .int (nI (fc)), .int (nI (tk)), .int (nI (cl)), .int (nI (dp)), .int (nI (bk)), .int (nI (ib))])), (qk, .inl (cy 0, 8, .inl (k2))), (qc, .inl (cy 0, 8, .inl (cf))), (qb, .inl (cy 0, 16, .inl (bf))), (kc, .inl (cy 0, 8, .inl (k2)))] H locs := ⟨hP, hD, hS⟩
  refine lv_aload_n hx hb dX1_restart_18 rfl (lv_at hl 0 rfl) ?_
  refine lv_iload hx hb dX1_restart_19 (lv_at hl 4 rfl) ?_
  refine va_put (D := D) (ci := 1) (v := .int (nI (fc2))) (ty := .int) (C := RX1) (T := TX1) (N := 13) hx hb hts i_X1_restart_X1 tyX1 tyX1_ok nmX1 hown hK hW.1 hW.2.1 hW.2.2 0 rfl rfl 7 (by decide) (hts (.fieldLink RX1 49 "TreeHashes$Hasher" "firstChunk" "I") f_X1_restart_4) (fun _ h9 => h9) rfl (by decide +kernel) rfl rfl (Nat.le_of_ble_eq_true rfl) dX1_restart_21 (fun H locs hP hD hS => ?_)
  have hW : Wd D A s [(h0, .inr (1, [.ref m0, .ref qk, .ref qs, .ref qc, .ref qb, .int (md2), .int (bs2), .int (nI (fc2)), .int (nI (tk)), .int (nI (cl)), .int (nI (dp)), .int (nI (bk)), .int (nI (ib))])), (qk, .inl (cy 0, 8, .inl (k2))), (qc, .inl (cy 0, 8, .inl (cf))), (qb, .inl (cy 0, 16, .inl (bf))), (kc, .inl (cy 0, 8, .inl (k2)))] H locs := ⟨hP, hD, hS⟩
  refine lv_aload_n hx hb dX1_restart_24 rfl (lv_at hl 0 rfl) ?_
  refine lv_iconst (v := nI (0)) hx hb dX1_restart_25 (by decide) ?_
  refine va_put (D := D) (ci := 1) (v := .int (nI (0))) (ty := .int) (C := RX1) (T := TX1) (N := 13) hx hb hts i_X1_restart_X1 tyX1 tyX1_ok nmX1 hown hK hW.1 hW.2.1 hW.2.2 0 rfl rfl 8 (by decide) (hts (.fieldLink RX1 52 "TreeHashes$Hasher" "taken" "I") f_X1_restart_5) (fun _ h9 => h9) rfl (by decide +kernel) rfl rfl (Nat.le_of_ble_eq_true rfl) dX1_restart_26 (fun H locs hP hD hS => ?_)
  have hW : Wd D A s [(h0, .inr (1, [.ref m0, .ref qk, .ref qs, .ref qc, .ref qb, .int (md2), .int (bs2), .int (nI (fc2)), .int (nI (0)), .int (nI (cl)), .int (nI (dp)), .int (nI (bk)), .int (nI (ib))])), (qk, .inl (cy 0, 8, .inl (k2))), (qc, .inl (cy 0, 8, .inl (cf))), (qb, .inl (cy 0, 16, .inl (bf))), (kc, .inl (cy 0, 8, .inl (k2)))] H locs := ⟨hP, hD, hS⟩
  refine lv_aload_n hx hb dX1_restart_29 rfl (lv_at hl 0 rfl) ?_
  refine lv_iconst (v := nI (0)) hx hb dX1_restart_30 (by decide) ?_
  refine va_put (D := D) (ci := 1) (v := .int (nI (0))) (ty := .int) (C := RX1) (T := TX1) (N := 13) hx hb hts i_X1_restart_X1 tyX1 tyX1_ok nmX1 hown hK hW.1 hW.2.1 hW.2.2 0 rfl rfl 9 (by decide) (hts (.fieldLink RX1 55 "TreeHashes$Hasher" "closed" "I") f_X1_restart_6) (fun _ h9 => h9) rfl (by decide +kernel) rfl rfl (Nat.le_of_ble_eq_true rfl) dX1_restart_31 (fun H locs hP hD hS => ?_)
  have hW : Wd D A s [(h0, .inr (1, [.ref m0, .ref qk, .ref qs, .ref qc, .ref qb, .int (md2), .int (bs2), .int (nI (fc2)), .int (nI (0)), .int (nI (0)), .int (nI (dp)), .int (nI (bk)), .int (nI (ib))])), (qk, .inl (cy 0, 8, .inl (k2))), (qc, .inl (cy 0, 8, .inl (cf))), (qb, .inl (cy 0, 16, .inl (bf))), (kc, .inl (cy 0, 8, .inl (k2)))] H locs := ⟨hP, hD, hS⟩
  refine lv_aload_n hx hb dX1_restart_34 rfl (lv_at hl 0 rfl) ?_
  refine lv_iconst (v := nI (0)) hx hb dX1_restart_35 (by decide) ?_
  refine va_put (D := D) (ci := 1) (v := .int (nI (0))) (ty := .int) (C := RX1) (T := TX1) (N := 13) hx hb hts i_X1_restart_X1 tyX1 tyX1_ok nmX1 hown hK hW.1 hW.2.1 hW.2.2 0 rfl rfl 10 (by decide) (hts (.fieldLink RX1 58 "TreeHashes$Hasher" "depth" "I") f_X1_restart_7) (fun _ h9 => h9) rfl (by decide +kernel) rfl rfl (Nat.le_of_ble_eq_true rfl) dX1_restart_36 (fun H locs hP hD hS => ?_)
  have hW : Wd D A s [(h0, .inr (1, [.ref m0, .ref qk, .ref qs, .ref qc, .ref qb, .int (md2), .int (bs2), .int (nI (fc2)), .int (nI (0)), .int (nI (0)), .int (nI (0)), .int (nI (bk)), .int (nI (ib))])), (qk, .inl (cy 0, 8, .inl (k2))), (qc, .inl (cy 0, 8, .inl (cf))), (qb, .inl (cy 0, 16, .inl (bf))), (kc, .inl (cy 0, 8, .inl (k2)))] H locs := ⟨hP, hD, hS⟩
  refine lv_aload_n hx hb dX1_restart_39 rfl (lv_at hl 0 rfl) ?_
  refine kVv (As := []) (rest := []) S0 hK hst hA hW [0, 1, 2, 3] (fun sz => c_X1_startChunk l D cy t m0 h0 qk qs qc qb md2 bs2 fc2 0 0 0 bk ib k2 cf bf  sz) rfl (by decide) (cwV 0 hts gX1_restart_X1_startChunk rfl rfl rfl (by decide +kernel) ⟨Nat.le_of_ble_eq_true rfl, Nat.le_of_ble_eq_true rfl⟩) (fun _ => rfl) 0 1 rfl rfl rfl hl.1 rfl (Nat.le_of_ble_eq_true rfl) dX1_restart_40 ⟨Nat.le_of_ble_eq_true rfl, Nat.le_of_ble_eq_true rfl⟩ (fun u40 H locs p40 hW => ?_)
  have hW : Wd D A s [(h0, .inr (1, [.ref m0, .ref qk, .ref qs, .ref qc, .ref qb, .int (md2), .int (bs2), .int (nI (fc2)), .int (nI (0)), .int (nI (0)), .int (nI (0)), .int (nI (0)), .int (nI (0))])), (qk, .inl (cy 0, 8, .inl (k2))), (qc, .inl (cy 0, 8, .inl (k2))), (qb, .inl (cy 0, 16, .inl ((fun _ => nI (0))))), (kc, .inl (cy 0, 8, .inl (k2)))] H locs := hW
  exact eV hQ hx hb hr hlocks hK hW () (trivial) (rfl) dX1_restart_43

theorem f_X1_restart_s_0 : Cond.fieldLink RX1 18 "TreeHashes$Hasher" "key" "[I" ∈ wsX1_restart := by decide +kernel
theorem i_X1_restart_s_X1 : ∀ w ∈ wsX10, w ∈ wsX1_restart := by decide +kernel
theorem f_X1_restart_s_2 : Cond.fieldLink RX1 42 "TreeHashes$Hasher" "mode" "I" ∈ wsX1_restart := by decide +kernel
theorem f_X1_restart_s_3 : Cond.fieldLink RX1 46 "TreeHashes$Hasher" "base" "I" ∈ wsX1_restart := by decide +kernel
theorem f_X1_restart_s_4 : Cond.fieldLink RX1 49 "TreeHashes$Hasher" "firstChunk" "I" ∈ wsX1_restart := by decide +kernel
theorem f_X1_restart_s_5 : Cond.fieldLink RX1 52 "TreeHashes$Hasher" "taken" "I" ∈ wsX1_restart := by decide +kernel
theorem f_X1_restart_s_6 : Cond.fieldLink RX1 55 "TreeHashes$Hasher" "closed" "I" ∈ wsX1_restart := by decide +kernel
theorem f_X1_restart_s_7 : Cond.fieldLink RX1 58 "TreeHashes$Hasher" "depth" "I" ∈ wsX1_restart := by decide +kernel
set_option maxHeartbeats 4000000 in
set_option maxRecDepth 100000 in
theorem c_X1_restart_s (l : Launch) (D : va_G) (cy : Nat → ClassId) (t : Nat × Nat) (m0 : Nat) (h0 : Nat) (qk : Nat) (qs : Nat) (qc : Nat) (qb : Nat) (md : Int32) (bs : Int32) (fc : Nat) (tk : Nat) (cl : Nat) (dp : Nat) (bk : Nat) (ib : Nat) (kf : Nat → Int32) (cf : Nat → Int32) (bf : Nat → Int32) (md2 : Int32) (bs2 : Int32) (fc2 : Nat)  (sz : Nat) : Met l yX1_restart wsX1_restart ({ frames := 2, cells := 0, slots := 0, locals := 42 }) (PcW D cy t [(h0, .inr (1, [.ref m0, .ref qk, .ref qs, .ref qc, .ref qb, .int (md), .int (bs), .int (nI (fc)), .int (nI (tk)), .int (nI (cl)), .int (nI (dp)), .int (nI (bk)), .int (nI (ib))])), (qk, .inl (cy 0, 8, .inl (kf))), (qc, .inl (cy 0, 8, .inl (cf))), (qb, .inl (cy 0, 16, .inl (bf)))] [.ref h0, .int (md2), .int (bs2), .ref t.1, .int (nI (fc2))] sz) (QvA D cy (fun u : Unit => True) (fun u : Unit => [(h0, .inr (1, [.ref m0, .ref qk, .ref qs, .ref qc, .ref qb, .int (md2), .int (bs2), .int (nI (fc2)), .int (nI (0)), .int (nI (0)), .int (nI (0)), .int (nI (0)), .int (nI (0))])), (qk, .inl (cy 0, 8, .inl (stA))), (qc, .inl (cy 0, 8, .inl (stA))), (qb, .inl (cy 0, 16, .inl ((fun _ => nI (0)))))]) (va_A [(h0, .inr (1, [.ref m0, .ref qk, .ref qs, .ref qc, .ref qb, .int (md), .int (bs), .int (nI (fc)), .int (nI (tk)), .int (nI (cl)), .int (nI (dp)), .int (nI (bk)), .int (nI (ib))])), (qk, .inl (cy 0, 8, .inl (kf))), (qc, .inl (cy 0, 8, .inl (cf))), (qb, .inl (cy 0, 16, .inl (bf)))] sz)) 0 0 (va_A [(h0, .inr (1, [.ref m0, .ref qk, .ref qs, .ref qc, .ref qb, .int (md), .int (bs), .int (nI (fc)), .int (nI (tk)), .int (nI (cl)), .int (nI (dp)), .int (nI (bk)), .int (nI (ib))])), (qk, .inl (cy 0, 8, .inl (kf))), (qc, .inl (cy 0, 8, .inl (cf))), (qb, .inl (cy 0, 16, .inl (bf)))] sz) := by
  refine M_ofW (cc := cX1_restart) (maxL := 5) (ret := none) (by decide) rfl (Nat.le_of_ble_eq_true rfl) ?_
  intro p e s m below meth c A ls args Q hQ S0 hr hlocks hnm hK hst hA hW hl
  have hx := S0.1; have hb := S0.2.1; have hml := S0.2.2.1; have hown := S0.2.2.2.1; have hts := S0.2.2.2.2
  have hl : lv_has ls 5 [(0, .ref h0), (1, .int (md2)), (2, .int (bs2)), (3, .ref t.1), (4, .int (nI (fc2)))] := hl
  refine lv_aload_n hx hb dX1_restart_0 rfl (lv_at hl 3 rfl) ?_
  refine lv_aload_n hx hb dX1_restart_1 rfl (lv_at hl 0 rfl) ?_
  refine va_get (D := D) (ci := 1) (v := .ref qk) (C := RX1) (T := TX1) (N := 13) hx hb hts i_X1_restart_s_X1 hown hK hW.1 0 rfl rfl 1 (by decide) (hts (.fieldLink RX1 18 "TreeHashes$Hasher" "key" "[I") f_X1_restart_s_0) (fun _ h9 => h9) rfl dX1_restart_2 ?_
  refine kSv (As := [.ref t.1, .ref qk]) (rest := []) S0 hK hst hA hW [1] (fun sz => c_X1_copyWords_s l D cy t qk kf  sz) rfl (by decide) (va_cwS 2 hts gX1_restart_X1_copyWords rfl rfl rfl (by decide +kernel) ⟨Nat.le_of_ble_eq_true rfl, Nat.le_of_ble_eq_true rfl⟩) (fun _ => rfl) rfl hl.1 rfl (Nat.le_of_ble_eq_true rfl) dX1_restart_5 ⟨Nat.le_of_ble_eq_true rfl, Nat.le_of_ble_eq_true rfl⟩ (fun u5 H locs p5 hW => ?_)
  have hW : Wd D A s [(h0, .inr (1, [.ref m0, .ref qk, .ref qs, .ref qc, .ref qb, .int (md), .int (bs), .int (nI (fc)), .int (nI (tk)), .int (nI (cl)), .int (nI (dp)), .int (nI (bk)), .int (nI (ib))])), (qk, .inl (cy 0, 8, .inl (stA))), (qc, .inl (cy 0, 8, .inl (cf))), (qb, .inl (cy 0, 16, .inl (bf)))] H locs := hW
  refine lv_aload_n hx hb dX1_restart_8 rfl (lv_at hl 0 rfl) ?_
  refine lv_iload_n hx hb dX1_restart_9 rfl (lv_at hl 1 rfl) ?_
  refine va_put (D := D) (ci := 1) (v := .int (md2)) (ty := .int) (C := RX1) (T := TX1) (N := 13) hx hb hts i_X1_restart_s_X1 tyX1 tyX1_ok nmX1 hown hK hW.1 hW.2.1 hW.2.2 0 rfl rfl 5 (by decide) (hts (.fieldLink RX1 42 "TreeHashes$Hasher" "mode" "I") f_X1_restart_s_2) (fun _ h9 => h9) rfl (by decide +kernel) rfl rfl (Nat.le_of_ble_eq_true rfl) dX1_restart_10 (fun H locs hP hD hS => ?_)
  have hW : Wd D A s [(h0, .inr (1, [.ref m0, .ref qk, .ref qs, .ref qc, .ref qb, .int (md2), .int (bs), .int (nI (fc)), .int (nI (tk)), .int (nI (cl)), .int (nI (dp)), .int (nI (bk)), .int (nI (ib))])), (qk, .inl (cy 0, 8, .inl (stA))), (qc, .inl (cy 0, 8, .inl (cf))), (qb, .inl (cy 0, 16, .inl (bf)))] H locs := ⟨hP, hD, hS⟩
  refine lv_aload_n hx hb dX1_restart_13 rfl (lv_at hl 0 rfl) ?_
  refine lv_iload_n hx hb dX1_restart_14 rfl (lv_at hl 2 rfl) ?_
  refine va_put (D := D) (ci := 1) (v := .int (bs2)) (ty := .int) (C := RX1) (T := TX1) (N := 13) hx hb hts i_X1_restart_s_X1 tyX1 tyX1_ok nmX1 hown hK hW.1 hW.2.1 hW.2.2 0 rfl rfl 6 (by decide) (hts (.fieldLink RX1 46 "TreeHashes$Hasher" "base" "I") f_X1_restart_s_3) (fun _ h9 => h9) rfl (by decide +kernel) rfl rfl (Nat.le_of_ble_eq_true rfl) dX1_restart_15 (fun H locs hP hD hS => ?_)
  have hW : Wd D A s [(h0, .inr (1, [.ref m0, .ref qk, .ref qs, .ref qc, .ref qb, .int (md2), .int (bs2), .int (nI (fc)), .int (nI (tk)), .int (nI (cl)), .int (nI (dp)), .int (nI (bk)), .int (nI (ib))])), (qk, .inl (cy 0, 8, .inl (stA))), (qc, .inl (cy 0, 8, .inl (cf))), (qb, .inl (cy 0, 16, .inl (bf)))] H locs := ⟨hP, hD, hS⟩
  refine lv_aload_n hx hb dX1_restart_18 rfl (lv_at hl 0 rfl) ?_
  refine lv_iload hx hb dX1_restart_19 (lv_at hl 4 rfl) ?_
  refine va_put (D := D) (ci := 1) (v := .int (nI (fc2))) (ty := .int) (C := RX1) (T := TX1) (N := 13) hx hb hts i_X1_restart_s_X1 tyX1 tyX1_ok nmX1 hown hK hW.1 hW.2.1 hW.2.2 0 rfl rfl 7 (by decide) (hts (.fieldLink RX1 49 "TreeHashes$Hasher" "firstChunk" "I") f_X1_restart_s_4) (fun _ h9 => h9) rfl (by decide +kernel) rfl rfl (Nat.le_of_ble_eq_true rfl) dX1_restart_21 (fun H locs hP hD hS => ?_)
  have hW : Wd D A s [(h0, .inr (1, [.ref m0, .ref qk, .ref qs, .ref qc, .ref qb, .int (md2), .int (bs2), .int (nI (fc2)), .int (nI (tk)), .int (nI (cl)), .int (nI (dp)), .int (nI (bk)), .int (nI (ib))])), (qk, .inl (cy 0, 8, .inl (stA))), (qc, .inl (cy 0, 8, .inl (cf))), (qb, .inl (cy 0, 16, .inl (bf)))] H locs := ⟨hP, hD, hS⟩
  refine lv_aload_n hx hb dX1_restart_24 rfl (lv_at hl 0 rfl) ?_
  refine lv_iconst (v := nI (0)) hx hb dX1_restart_25 (by decide) ?_
  refine va_put (D := D) (ci := 1) (v := .int (nI (0))) (ty := .int) (C := RX1) (T := TX1) (N := 13) hx hb hts i_X1_restart_s_X1 tyX1 tyX1_ok nmX1 hown hK hW.1 hW.2.1 hW.2.2 0 rfl rfl 8 (by decide) (hts (.fieldLink RX1 52 "TreeHashes$Hasher" "taken" "I") f_X1_restart_s_5) (fun _ h9 => h9) rfl (by decide +kernel) rfl rfl (Nat.le_of_ble_eq_true rfl) dX1_restart_26 (fun H locs hP hD hS => ?_)
  have hW : Wd D A s [(h0, .inr (1, [.ref m0, .ref qk, .ref qs, .ref qc, .ref qb, .int (md2), .int (bs2), .int (nI (fc2)), .int (nI (0)), .int (nI (cl)), .int (nI (dp)), .int (nI (bk)), .int (nI (ib))])), (qk, .inl (cy 0, 8, .inl (stA))), (qc, .inl (cy 0, 8, .inl (cf))), (qb, .inl (cy 0, 16, .inl (bf)))] H locs := ⟨hP, hD, hS⟩
  refine lv_aload_n hx hb dX1_restart_29 rfl (lv_at hl 0 rfl) ?_
  refine lv_iconst (v := nI (0)) hx hb dX1_restart_30 (by decide) ?_
  refine va_put (D := D) (ci := 1) (v := .int (nI (0))) (ty := .int) (C := RX1) (T := TX1) (N := 13) hx hb hts i_X1_restart_s_X1 tyX1 tyX1_ok nmX1 hown hK hW.1 hW.2.1 hW.2.2 0 rfl rfl 9 (by decide) (hts (.fieldLink RX1 55 "TreeHashes$Hasher" "closed" "I") f_X1_restart_s_6) (fun _ h9 => h9) rfl (by decide +kernel) rfl rfl (Nat.le_of_ble_eq_true rfl) dX1_restart_31 (fun H locs hP hD hS => ?_)
  have hW : Wd D A s [(h0, .inr (1, [.ref m0, .ref qk, .ref qs, .ref qc, .ref qb, .int (md2), .int (bs2), .int (nI (fc2)), .int (nI (0)), .int (nI (0)), .int (nI (dp)), .int (nI (bk)), .int (nI (ib))])), (qk, .inl (cy 0, 8, .inl (stA))), (qc, .inl (cy 0, 8, .inl (cf))), (qb, .inl (cy 0, 16, .inl (bf)))] H locs := ⟨hP, hD, hS⟩
  refine lv_aload_n hx hb dX1_restart_34 rfl (lv_at hl 0 rfl) ?_
  refine lv_iconst (v := nI (0)) hx hb dX1_restart_35 (by decide) ?_
  refine va_put (D := D) (ci := 1) (v := .int (nI (0))) (ty := .int) (C := RX1) (T := TX1) (N := 13) hx hb hts i_X1_restart_s_X1 tyX1 tyX1_ok nmX1 hown hK hW.1 hW.2.1 hW.2.2 0 rfl rfl 10 (by decide) (hts (.fieldLink RX1 58 "TreeHashes$Hasher" "depth" "I") f_X1_restart_s_7) (fun _ h9 => h9) rfl (by decide +kernel) rfl rfl (Nat.le_of_ble_eq_true rfl) dX1_restart_36 (fun H locs hP hD hS => ?_)
  have hW : Wd D A s [(h0, .inr (1, [.ref m0, .ref qk, .ref qs, .ref qc, .ref qb, .int (md2), .int (bs2), .int (nI (fc2)), .int (nI (0)), .int (nI (0)), .int (nI (0)), .int (nI (bk)), .int (nI (ib))])), (qk, .inl (cy 0, 8, .inl (stA))), (qc, .inl (cy 0, 8, .inl (cf))), (qb, .inl (cy 0, 16, .inl (bf)))] H locs := ⟨hP, hD, hS⟩
  refine lv_aload_n hx hb dX1_restart_39 rfl (lv_at hl 0 rfl) ?_
  refine kVv (As := []) (rest := []) S0 hK hst hA hW [0, 1, 2, 3] (fun sz => c_X1_startChunk l D cy t m0 h0 qk qs qc qb md2 bs2 fc2 0 0 0 bk ib stA cf bf  sz) rfl (by decide) (cwV 0 hts gX1_restart_X1_startChunk rfl rfl rfl (by decide +kernel) ⟨Nat.le_of_ble_eq_true rfl, Nat.le_of_ble_eq_true rfl⟩) (fun _ => rfl) 0 1 rfl rfl rfl hl.1 rfl (Nat.le_of_ble_eq_true rfl) dX1_restart_40 ⟨Nat.le_of_ble_eq_true rfl, Nat.le_of_ble_eq_true rfl⟩ (fun u40 H locs p40 hW => ?_)
  have hW : Wd D A s [(h0, .inr (1, [.ref m0, .ref qk, .ref qs, .ref qc, .ref qb, .int (md2), .int (bs2), .int (nI (fc2)), .int (nI (0)), .int (nI (0)), .int (nI (0)), .int (nI (0)), .int (nI (0))])), (qk, .inl (cy 0, 8, .inl (stA))), (qc, .inl (cy 0, 8, .inl (stA))), (qb, .inl (cy 0, 16, .inl ((fun _ => nI (0)))))] H locs := hW
  exact eV hQ hx hb hr hlocks hK hW () (trivial) (rfl) dX1_restart_43

theorem f_X1_becomeAs_0 : Cond.fieldLink RX1 18 "TreeHashes$Hasher" "key" "[I" ∈ wsX1_becomeAs := by decide +kernel
theorem i_X1_becomeAs_X1 : ∀ w ∈ wsX10, w ∈ wsX1_becomeAs := by decide +kernel
theorem f_X1_becomeAs_2 : Cond.fieldLink RX1 22 "TreeHashes$Hasher" "stack" "[I" ∈ wsX1_becomeAs := by decide +kernel
theorem f_X1_becomeAs_3 : Cond.fieldLink RX1 25 "TreeHashes$Hasher" "chunkChain" "[I" ∈ wsX1_becomeAs := by decide +kernel
theorem f_X1_becomeAs_4 : Cond.fieldLink RX1 28 "TreeHashes$Hasher" "block" "[I" ∈ wsX1_becomeAs := by decide +kernel
theorem f_X1_becomeAs_5 : Cond.fieldLink RX1 42 "TreeHashes$Hasher" "mode" "I" ∈ wsX1_becomeAs := by decide +kernel
theorem f_X1_becomeAs_6 : Cond.fieldLink RX1 46 "TreeHashes$Hasher" "base" "I" ∈ wsX1_becomeAs := by decide +kernel
theorem f_X1_becomeAs_7 : Cond.fieldLink RX1 49 "TreeHashes$Hasher" "firstChunk" "I" ∈ wsX1_becomeAs := by decide +kernel
theorem f_X1_becomeAs_8 : Cond.fieldLink RX1 52 "TreeHashes$Hasher" "taken" "I" ∈ wsX1_becomeAs := by decide +kernel
theorem f_X1_becomeAs_9 : Cond.fieldLink RX1 55 "TreeHashes$Hasher" "closed" "I" ∈ wsX1_becomeAs := by decide +kernel
theorem f_X1_becomeAs_10 : Cond.fieldLink RX1 58 "TreeHashes$Hasher" "depth" "I" ∈ wsX1_becomeAs := by decide +kernel
theorem f_X1_becomeAs_11 : Cond.fieldLink RX1 64 "TreeHashes$Hasher" "blocks" "I" ∈ wsX1_becomeAs := by decide +kernel
theorem f_X1_becomeAs_12 : Cond.fieldLink RX1 67 "TreeHashes$Hasher" "inBlock" "I" ∈ wsX1_becomeAs := by decide +kernel
set_option maxHeartbeats 4000000 in
set_option maxRecDepth 100000 in
theorem c_X1_becomeAs (l : Launch) (D : va_G) (cy : Nat → ClassId) (t : Nat × Nat) (m0 : Nat) (h0 : Nat) (qk : Nat) (qs : Nat) (qc : Nat) (qb : Nat) (md : Int32) (bs : Int32) (fc : Nat) (tk : Nat) (cl : Nat) (dp : Nat) (bk : Nat) (ib : Nat) (kf : Nat → Int32) (sf : Nat → Int32) (cf : Nat → Int32) (bf : Nat → Int32) (g0 : Nat) (p0 : Nat) (pk : Nat) (ps : Nat) (pc : Nat) (pb : Nat) (md2 : Int32) (bs2 : Int32) (fc2 : Nat) (tk2 : Nat) (cl2 : Nat) (dp2 : Nat) (bk2 : Nat) (ib2 : Nat) (kf2 : Nat → Int32) (sf2 : Nat → Int32) (cf2 : Nat → Int32) (bf2 : Nat → Int32)  (sz : Nat) : Met l yX1_becomeAs wsX1_becomeAs ({ frames := 1, cells := 0, slots := 0, locals := 22 }) (PcW D cy t [(h0, .inr (1, [.ref m0, .ref qk, .ref qs, .ref qc, .ref qb, .int (md), .int (bs), .int (nI (fc)), .int (nI (tk)), .int (nI (cl)), .int (nI (dp)), .int (nI (bk)), .int (nI (ib))])), (qk, .inl (cy 0, 8, .inl (kf))), (qs, .inl (cy 0, 40, .inl (sf))), (qc, .inl (cy 0, 8, .inl (cf))), (qb, .inl (cy 0, 16, .inl (bf))), (g0, .inr (1, [.ref p0, .ref pk, .ref ps, .ref pc, .ref pb, .int (md2), .int (bs2), .int (nI (fc2)), .int (nI (tk2)), .int (nI (cl2)), .int (nI (dp2)), .int (nI (bk2)), .int (nI (ib2))])), (pk, .inl (cy 0, 8, .inl (kf2))), (ps, .inl (cy 0, 40, .inl (sf2))), (pc, .inl (cy 0, 8, .inl (cf2))), (pb, .inl (cy 0, 16, .inl (bf2)))] [.ref h0, .ref g0] sz) (QvA D cy (fun u : Unit => True) (fun u : Unit => [(h0, .inr (1, [.ref m0, .ref qk, .ref qs, .ref qc, .ref qb, .int (md2), .int (bs2), .int (nI (fc2)), .int (nI (tk2)), .int (nI (cl2)), .int (nI (dp2)), .int (nI (bk2)), .int (nI (ib2))])), (qk, .inl (cy 0, 8, .inl (kf2))), (qs, .inl (cy 0, 40, .inl (sf2))), (qc, .inl (cy 0, 8, .inl (cf2))), (qb, .inl (cy 0, 16, .inl (bf2))), (g0, .inr (1, [.ref p0, .ref pk, .ref ps, .ref pc, .ref pb, .int (md2), .int (bs2), .int (nI (fc2)), .int (nI (tk2)), .int (nI (cl2)), .int (nI (dp2)), .int (nI (bk2)), .int (nI (ib2))])), (pk, .inl (cy 0, 8, .inl (kf2))), (ps, .inl (cy 0, 40, .inl (sf2))), (pc, .inl (cy 0, 8, .inl (cf2))), (pb, .inl (cy 0, 16, .inl (bf2)))]) (va_A [(h0, .inr (1, [.ref m0, .ref qk, .ref qs, .ref qc, .ref qb, .int (md), .int (bs), .int (nI (fc)), .int (nI (tk)), .int (nI (cl)), .int (nI (dp)), .int (nI (bk)), .int (nI (ib))])), (qk, .inl (cy 0, 8, .inl (kf))), (qs, .inl (cy 0, 40, .inl (sf))), (qc, .inl (cy 0, 8, .inl (cf))), (qb, .inl (cy 0, 16, .inl (bf))), (g0, .inr (1, [.ref p0, .ref pk, .ref ps, .ref pc, .ref pb, .int (md2), .int (bs2), .int (nI (fc2)), .int (nI (tk2)), .int (nI (cl2)), .int (nI (dp2)), .int (nI (bk2)), .int (nI (ib2))])), (pk, .inl (cy 0, 8, .inl (kf2))), (ps, .inl (cy 0, 40, .inl (sf2))), (pc, .inl (cy 0, 8, .inl (cf2))), (pb, .inl (cy 0, 16, .inl (bf2)))] sz)) 0 0 (va_A [(h0, .inr (1, [.ref m0, .ref qk, .ref qs, .ref qc, .ref qb, .int (md), .int (bs), .int (nI (fc)), .int (nI (tk)), .int (nI (cl)), .int (nI (dp)), .int (nI (bk)), .int (nI (ib))])), (qk, .inl (cy 0, 8, .inl (kf))), (qs, .inl (cy 0, 40, .inl (sf))), (qc, .inl (cy 0, 8, .inl (cf))), (qb, .inl (cy 0, 16, .inl (bf))), (g0, .inr (1, [.ref p0, .ref pk, .ref ps, .ref pc, .ref pb, .int (md2), .int (bs2), .int (nI (fc2)), .int (nI (tk2)), .int (nI (cl2)), .int (nI (dp2)), .int (nI (bk2)), .int (nI (ib2))])), (pk, .inl (cy 0, 8, .inl (kf2))), (ps, .inl (cy 0, 40, .inl (sf2))), (pc, .inl (cy 0, 8, .inl (cf2))), (pb, .inl (cy 0, 16, .inl (bf2)))] sz) := by
  refine M_ofW (cc := cX1_becomeAs) (maxL := 2) (ret := none) (by decide) rfl (Nat.le_of_ble_eq_true rfl) ?_
  intro p e s m below meth c A ls args Q hQ S0 hr hlocks hnm hK hst hA hW hl
  have hx := S0.1; have hb := S0.2.1; have hml := S0.2.2.1; have hown := S0.2.2.2.1; have hts := S0.2.2.2.2
  have hl : lv_has ls 2 [(0, .ref h0), (1, .ref g0)] := hl
  refine lv_aload_n hx hb dX1_becomeAs_0 rfl (lv_at hl 1 rfl) ?_
  refine va_get (D := D) (ci := 1) (v := .ref pk) (C := RX1) (T := TX1) (N := 13) hx hb hts i_X1_becomeAs_X1 hown hK hW.1 5 rfl rfl 1 (by decide) (hts (.fieldLink RX1 18 "TreeHashes$Hasher" "key" "[I") f_X1_becomeAs_0) (fun _ h9 => h9) rfl dX1_becomeAs_1 ?_
  refine lv_aload_n hx hb dX1_becomeAs_4 rfl (lv_at hl 0 rfl) ?_
  refine va_get (D := D) (ci := 1) (v := .ref qk) (C := RX1) (T := TX1) (N := 13) hx hb hts i_X1_becomeAs_X1 hown hK hW.1 0 rfl rfl 1 (by decide) (hts (.fieldLink RX1 18 "TreeHashes$Hasher" "key" "[I") f_X1_becomeAs_0) (fun _ h9 => h9) rfl dX1_becomeAs_5 ?_
  refine kSv (As := [.ref pk, .ref qk]) (rest := []) S0 hK hst hA hW [6, 1] (fun sz => c_X1_copyWords l D cy t pk qk 8 kf2 kf (by omega) sz) rfl (by decide) (va_cwS 2 hts gX1_becomeAs_X1_copyWords rfl rfl rfl (by decide +kernel) ⟨Nat.le_of_ble_eq_true rfl, Nat.le_of_ble_eq_true rfl⟩) (fun _ => rfl) rfl hl.1 rfl (Nat.le_of_ble_eq_true rfl) dX1_becomeAs_8 ⟨Nat.le_of_ble_eq_true rfl, Nat.le_of_ble_eq_true rfl⟩ (fun u8 H locs p8 hW => ?_)
  have hW : Wd D A s [(h0, .inr (1, [.ref m0, .ref qk, .ref qs, .ref qc, .ref qb, .int (md), .int (bs), .int (nI (fc)), .int (nI (tk)), .int (nI (cl)), .int (nI (dp)), .int (nI (bk)), .int (nI (ib))])), (qk, .inl (cy 0, 8, .inl (kf2))), (qs, .inl (cy 0, 40, .inl (sf))), (qc, .inl (cy 0, 8, .inl (cf))), (qb, .inl (cy 0, 16, .inl (bf))), (g0, .inr (1, [.ref p0, .ref pk, .ref ps, .ref pc, .ref pb, .int (md2), .int (bs2), .int (nI (fc2)), .int (nI (tk2)), .int (nI (cl2)), .int (nI (dp2)), .int (nI (bk2)), .int (nI (ib2))])), (pk, .inl (cy 0, 8, .inl (kf2))), (ps, .inl (cy 0, 40, .inl (sf2))), (pc, .inl (cy 0, 8, .inl (cf2))), (pb, .inl (cy 0, 16, .inl (bf2)))] H locs := hW
  refine lv_aload_n hx hb dX1_becomeAs_11 rfl (lv_at hl 1 rfl) ?_
  refine va_get (D := D) (ci := 1) (v := .ref ps) (C := RX1) (T := TX1) (N := 13) hx hb hts i_X1_becomeAs_X1 hown hK hW.1 5 rfl rfl 2 (by decide) (hts (.fieldLink RX1 22 "TreeHashes$Hasher" "stack" "[I") f_X1_becomeAs_2) (fun _ h9 => h9) rfl dX1_becomeAs_12 ?_
  refine lv_aload_n hx hb dX1_becomeAs_15 rfl (lv_at hl 0 rfl) ?_
  refine va_get (D := D) (ci := 1) (v := .ref qs) (C := RX1) (T := TX1) (N := 13) hx hb hts i_X1_becomeAs_X1 hown hK hW.1 0 rfl rfl 2 (by decide) (hts (.fieldLink RX1 22 "TreeHashes$Hasher" "stack" "[I") f_X1_becomeAs_2) (fun _ h9 => h9) rfl dX1_becomeAs_16 ?_
  refine kSv (As := [.ref ps, .ref qs]) (rest := []) S0 hK hst hA hW [7, 2] (fun sz => c_X1_copyWords l D cy t ps qs 40 sf2 sf (by omega) sz) rfl (by decide) (va_cwS 2 hts gX1_becomeAs_X1_copyWords rfl rfl rfl (by decide +kernel) ⟨Nat.le_of_ble_eq_true rfl, Nat.le_of_ble_eq_true rfl⟩) (fun _ => rfl) rfl hl.1 rfl (Nat.le_of_ble_eq_true rfl) dX1_becomeAs_19 ⟨Nat.le_of_ble_eq_true rfl, Nat.le_of_ble_eq_true rfl⟩ (fun u19 H locs p19 hW => ?_)
  have hW : Wd D A s [(h0, .inr (1, [.ref m0, .ref qk, .ref qs, .ref qc, .ref qb, .int (md), .int (bs), .int (nI (fc)), .int (nI (tk)), .int (nI (cl)), .int (nI (dp)), .int (nI (bk)), .int (nI (ib))])), (qk, .inl (cy 0, 8, .inl (kf2))), (qs, .inl (cy 0, 40, .inl (sf2))), (qc, .inl (cy 0, 8, .inl (cf))), (qb, .inl (cy 0, 16, .inl (bf))), (g0, .inr (1, [.ref p0, .ref pk, .ref ps, .ref pc, .ref pb, .int (md2), .int (bs2), .int (nI (fc2)), .int (nI (tk2)), .int (nI (cl2)), .int (nI (dp2)), .int (nI (bk2)), .int (nI (ib2))])), (pk, .inl (cy 0, 8, .inl (kf2))), (ps, .inl (cy 0, 40, .inl (sf2))), (pc, .inl (cy 0, 8, .inl (cf2))), (pb, .inl (cy 0, 16, .inl (bf2)))] H locs := hW
  refine lv_aload_n hx hb dX1_becomeAs_22 rfl (lv_at hl 1 rfl) ?_
  refine va_get (D := D) (ci := 1) (v := .ref pc) (C := RX1) (T := TX1) (N := 13) hx hb hts i_X1_becomeAs_X1 hown hK hW.1 5 rfl rfl 3 (by decide) (hts (.fieldLink RX1 25 "TreeHashes$Hasher" "chunkChain" "[I") f_X1_becomeAs_3) (fun _ h9 => h9) rfl dX1_becomeAs_23 ?_
  refine lv_aload_n hx hb dX1_becomeAs_26 rfl (lv_at hl 0 rfl) ?_
  refine va_get (D := D) (ci := 1) (v := .ref qc) (C := RX1) (T := TX1) (N := 13) hx hb hts i_X1_becomeAs_X1 hown hK hW.1 0 rfl rfl 3 (by decide) (hts (.fieldLink RX1 25 "TreeHashes$Hasher" "chunkChain" "[I") f_X1_becomeAs_3) (fun _ h9 => h9) rfl dX1_becomeAs_27 ?_
  refine kSv (As := [.ref pc, .ref qc]) (rest := []) S0 hK hst hA hW [8, 3] (fun sz => c_X1_copyWords l D cy t pc qc 8 cf2 cf (by omega) sz) rfl (by decide) (va_cwS 2 hts gX1_becomeAs_X1_copyWords rfl rfl rfl (by decide +kernel) ⟨Nat.le_of_ble_eq_true rfl, Nat.le_of_ble_eq_true rfl⟩) (fun _ => rfl) rfl hl.1 rfl (Nat.le_of_ble_eq_true rfl) dX1_becomeAs_30 ⟨Nat.le_of_ble_eq_true rfl, Nat.le_of_ble_eq_true rfl⟩ (fun u30 H locs p30 hW => ?_)
  have hW : Wd D A s [(h0, .inr (1, [.ref m0, .ref qk, .ref qs, .ref qc, .ref qb, .int (md), .int (bs), .int (nI (fc)), .int (nI (tk)), .int (nI (cl)), .int (nI (dp)), .int (nI (bk)), .int (nI (ib))])), (qk, .inl (cy 0, 8, .inl (kf2))), (qs, .inl (cy 0, 40, .inl (sf2))), (qc, .inl (cy 0, 8, .inl (cf2))), (qb, .inl (cy 0, 16, .inl (bf))), (g0, .inr (1, [.ref p0, .ref pk, .ref ps, .ref pc, .ref pb, .int (md2), .int (bs2), .int (nI (fc2)), .int (nI (tk2)), .int (nI (cl2)), .int (nI (dp2)), .int (nI (bk2)), .int (nI (ib2))])), (pk, .inl (cy 0, 8, .inl (kf2))), (ps, .inl (cy 0, 40, .inl (sf2))), (pc, .inl (cy 0, 8, .inl (cf2))), (pb, .inl (cy 0, 16, .inl (bf2)))] H locs := hW
  refine lv_aload_n hx hb dX1_becomeAs_33 rfl (lv_at hl 1 rfl) ?_
  refine va_get (D := D) (ci := 1) (v := .ref pb) (C := RX1) (T := TX1) (N := 13) hx hb hts i_X1_becomeAs_X1 hown hK hW.1 5 rfl rfl 4 (by decide) (hts (.fieldLink RX1 28 "TreeHashes$Hasher" "block" "[I") f_X1_becomeAs_4) (fun _ h9 => h9) rfl dX1_becomeAs_34 ?_
  refine lv_aload_n hx hb dX1_becomeAs_37 rfl (lv_at hl 0 rfl) ?_
  refine va_get (D := D) (ci := 1) (v := .ref qb) (C := RX1) (T := TX1) (N := 13) hx hb hts i_X1_becomeAs_X1 hown hK hW.1 0 rfl rfl 4 (by decide) (hts (.fieldLink RX1 28 "TreeHashes$Hasher" "block" "[I") f_X1_becomeAs_4) (fun _ h9 => h9) rfl dX1_becomeAs_38 ?_
  refine kSv (As := [.ref pb, .ref qb]) (rest := []) S0 hK hst hA hW [9, 4] (fun sz => c_X1_copyWords l D cy t pb qb 16 bf2 bf (by omega) sz) rfl (by decide) (va_cwS 2 hts gX1_becomeAs_X1_copyWords rfl rfl rfl (by decide +kernel) ⟨Nat.le_of_ble_eq_true rfl, Nat.le_of_ble_eq_true rfl⟩) (fun _ => rfl) rfl hl.1 rfl (Nat.le_of_ble_eq_true rfl) dX1_becomeAs_41 ⟨Nat.le_of_ble_eq_true rfl, Nat.le_of_ble_eq_true rfl⟩ (fun u41 H locs p41 hW => ?_)
  have hW : Wd D A s [(h0, .inr (1, [.ref m0, .ref qk, .ref qs, .ref qc, .ref qb, .int (md), .int (bs), .int (nI (fc)), .int (nI (tk)), .int (nI (cl)), .int (nI (dp)), .int (nI (bk)), .int (nI (ib))])), (qk, .inl (cy 0, 8, .inl (kf2))), (qs, .inl (cy 0, 40, .inl (sf2))), (qc, .inl (cy 0, 8, .inl (cf2))), (qb, .inl (cy 0, 16, .inl (bf2))), (g0, .inr (1, [.ref p0, .ref pk, .ref ps, .ref pc, .ref pb, .int (md2), .int (bs2), .int (nI (fc2)), .int (nI (tk2)), .int (nI (cl2)), .int (nI (dp2)), .int (nI (bk2)), .int (nI (ib2))])), (pk, .inl (cy 0, 8, .inl (kf2))), (ps, .inl (cy 0, 40, .inl (sf2))), (pc, .inl (cy 0, 8, .inl (cf2))), (pb, .inl (cy 0, 16, .inl (bf2)))] H locs := hW
  refine lv_aload_n hx hb dX1_becomeAs_44 rfl (lv_at hl 0 rfl) ?_
  refine lv_aload_n hx hb dX1_becomeAs_45 rfl (lv_at hl 1 rfl) ?_
  refine va_get (D := D) (ci := 1) (v := .int (md2)) (C := RX1) (T := TX1) (N := 13) hx hb hts i_X1_becomeAs_X1 hown hK hW.1 5 rfl rfl 5 (by decide) (hts (.fieldLink RX1 42 "TreeHashes$Hasher" "mode" "I") f_X1_becomeAs_5) (fun _ h9 => h9) rfl dX1_becomeAs_46 ?_
  refine va_put (D := D) (ci := 1) (v := .int (md2)) (ty := .int) (C := RX1) (T := TX1) (N := 13) hx hb hts i_X1_becomeAs_X1 tyX1 tyX1_ok nmX1 hown hK hW.1 hW.2.1 hW.2.2 0 rfl rfl 5 (by decide) (hts (.fieldLink RX1 42 "TreeHashes$Hasher" "mode" "I") f_X1_becomeAs_5) (fun _ h9 => h9) rfl (by decide +kernel) rfl rfl (Nat.le_of_ble_eq_true rfl) dX1_becomeAs_49 (fun H locs hP hD hS => ?_)
  have hW : Wd D A s [(h0, .inr (1, [.ref m0, .ref qk, .ref qs, .ref qc, .ref qb, .int (md2), .int (bs), .int (nI (fc)), .int (nI (tk)), .int (nI (cl)), .int (nI (dp)), .int (nI (bk)), .int (nI (ib))])), (qk, .inl (cy 0, 8, .inl (kf2))), (qs, .inl (cy 0, 40, .inl (sf2))), (qc, .inl (cy 0, 8, .inl (cf2))), (qb, .inl (cy 0, 16, .inl (bf2))), (g0, .inr (1, [.ref p0, .ref pk, .ref ps, .ref pc, .ref pb, .int (md2), .int (bs2), .int (nI (fc2)), .int (nI (tk2)), .int (nI (cl2)), .int (nI (dp2)), .int (nI (bk2)), .int (nI (ib2))])), (pk, .inl (cy 0, 8, .inl (kf2))), (ps, .inl (cy 0, 40, .inl (sf2))), (pc, .inl (cy 0, 8, .inl (cf2))), (pb, .inl (cy 0, 16, .inl (bf2)))] H locs := ⟨hP, hD, hS⟩
  refine lv_aload_n hx hb dX1_becomeAs_52 rfl (lv_at hl 0 rfl) ?_
  refine lv_aload_n hx hb dX1_becomeAs_53 rfl (lv_at hl 1 rfl) ?_
  refine va_get (D := D) (ci := 1) (v := .int (bs2)) (C := RX1) (T := TX1) (N := 13) hx hb hts i_X1_becomeAs_X1 hown hK hW.1 5 rfl rfl 6 (by decide) (hts (.fieldLink RX1 46 "TreeHashes$Hasher" "base" "I") f_X1_becomeAs_6) (fun _ h9 => h9) rfl dX1_becomeAs_54 ?_
  refine va_put (D := D) (ci := 1) (v := .int (bs2)) (ty := .int) (C := RX1) (T := TX1) (N := 13) hx hb hts i_X1_becomeAs_X1 tyX1 tyX1_ok nmX1 hown hK hW.1 hW.2.1 hW.2.2 0 rfl rfl 6 (by decide) (hts (.fieldLink RX1 46 "TreeHashes$Hasher" "base" "I") f_X1_becomeAs_6) (fun _ h9 => h9) rfl (by decide +kernel) rfl rfl (Nat.le_of_ble_eq_true rfl) dX1_becomeAs_57 (fun H locs hP hD hS => ?_)
  have hW : Wd D A s [(h0, .inr (1, [.ref m0, .ref qk, .ref qs, .ref qc, .ref qb, .int (md2), .int (bs2), .int (nI (fc)), .int (nI (tk)), .int (nI (cl)), .int (nI (dp)), .int (nI (bk)), .int (nI (ib))])), (qk, .inl (cy 0, 8, .inl (kf2))), (qs, .inl (cy 0, 40, .inl (sf2))), (qc, .inl (cy 0, 8, .inl (cf2))), (qb, .inl (cy 0, 16, .inl (bf2))), (g0, .inr (1, [.ref p0, .ref pk, .ref ps, .ref pc, .ref pb, .int (md2), .int (bs2), .int (nI (fc2)), .int (nI (tk2)), .int (nI (cl2)), .int (nI (dp2)), .int (nI (bk2)), .int (nI (ib2))])), (pk, .inl (cy 0, 8, .inl (kf2))), (ps, .inl (cy 0, 40, .inl (sf2))), (pc, .inl (cy 0, 8, .inl (cf2))), (pb, .inl (cy 0, 16, .inl (bf2)))] H locs := ⟨hP, hD, hS⟩
  refine lv_aload_n hx hb dX1_becomeAs_60 rfl (lv_at hl 0 rfl) ?_
  refine lv_aload_n hx hb dX1_becomeAs_61 rfl (lv_at hl 1 rfl) ?_
  refine va_get (D := D) (ci := 1) (v := .int (nI (fc2))) (C := RX1) (T := TX1) (N := 13) hx hb hts i_X1_becomeAs_X1 hown hK hW.1 5 rfl rfl 7 (by decide) (hts (.fieldLink RX1 49 "TreeHashes$Hasher" "firstChunk" "I") f_X1_becomeAs_7) (fun _ h9 => h9) rfl dX1_becomeAs_62 ?_
  refine va_put (D := D) (ci := 1) (v := .int (nI (fc2))) (ty := .int) (C := RX1) (T := TX1) (N := 13) hx hb hts i_X1_becomeAs_X1 tyX1 tyX1_ok nmX1 hown hK hW.1 hW.2.1 hW.2.2 0 rfl rfl 7 (by decide) (hts (.fieldLink RX1 49 "TreeHashes$Hasher" "firstChunk" "I") f_X1_becomeAs_7) (fun _ h9 => h9) rfl (by decide +kernel) rfl rfl (Nat.le_of_ble_eq_true rfl) dX1_becomeAs_65 (fun H locs hP hD hS => ?_)
  have hW : Wd D A s [(h0, .inr (1, [.ref m0, .ref qk, .ref qs, .ref qc, .ref qb, .int (md2), .int (bs2), .int (nI (fc2)), .int (nI (tk)), .int (nI (cl)), .int (nI (dp)), .int (nI (bk)), .int (nI (ib))])), (qk, .inl (cy 0, 8, .inl (kf2))), (qs, .inl (cy 0, 40, .inl (sf2))), (qc, .inl (cy 0, 8, .inl (cf2))), (qb, .inl (cy 0, 16, .inl (bf2))), (g0, .inr (1, [.ref p0, .ref pk, .ref ps, .ref pc, .ref pb, .int (md2), .int (bs2), .int (nI (fc2)), .int (nI (tk2)), .int (nI (cl2)), .int (nI (dp2)), .int (nI (bk2)), .int (nI (ib2))])), (pk, .inl (cy 0, 8, .inl (kf2))), (ps, .inl (cy 0, 40, .inl (sf2))), (pc, .inl (cy 0, 8, .inl (cf2))), (pb, .inl (cy 0, 16, .inl (bf2)))] H locs := ⟨hP, hD, hS⟩
  refine lv_aload_n hx hb dX1_becomeAs_68 rfl (lv_at hl 0 rfl) ?_
  refine lv_aload_n hx hb dX1_becomeAs_69 rfl (lv_at hl 1 rfl) ?_
  refine va_get (D := D) (ci := 1) (v := .int (nI (tk2))) (C := RX1) (T := TX1) (N := 13) hx hb hts i_X1_becomeAs_X1 hown hK hW.1 5 rfl rfl 8 (by decide) (hts (.fieldLink RX1 52 "TreeHashes$Hasher" "taken" "I") f_X1_becomeAs_8) (fun _ h9 => h9) rfl dX1_becomeAs_70 ?_
  refine va_put (D := D) (ci := 1) (v := .int (nI (tk2))) (ty := .int) (C := RX1) (T := TX1) (N := 13) hx hb hts i_X1_becomeAs_X1 tyX1 tyX1_ok nmX1 hown hK hW.1 hW.2.1 hW.2.2 0 rfl rfl 8 (by decide) (hts (.fieldLink RX1 52 "TreeHashes$Hasher" "taken" "I") f_X1_becomeAs_8) (fun _ h9 => h9) rfl (by decide +kernel) rfl rfl (Nat.le_of_ble_eq_true rfl) dX1_becomeAs_73 (fun H locs hP hD hS => ?_)
  have hW : Wd D A s [(h0, .inr (1, [.ref m0, .ref qk, .ref qs, .ref qc, .ref qb, .int (md2), .int (bs2), .int (nI (fc2)), .int (nI (tk2)), .int (nI (cl)), .int (nI (dp)), .int (nI (bk)), .int (nI (ib))])), (qk, .inl (cy 0, 8, .inl (kf2))), (qs, .inl (cy 0, 40, .inl (sf2))), (qc, .inl (cy 0, 8, .inl (cf2))), (qb, .inl (cy 0, 16, .inl (bf2))), (g0, .inr (1, [.ref p0, .ref pk, .ref ps, .ref pc, .ref pb, .int (md2), .int (bs2), .int (nI (fc2)), .int (nI (tk2)), .int (nI (cl2)), .int (nI (dp2)), .int (nI (bk2)), .int (nI (ib2))])), (pk, .inl (cy 0, 8, .inl (kf2))), (ps, .inl (cy 0, 40, .inl (sf2))), (pc, .inl (cy 0, 8, .inl (cf2))), (pb, .inl (cy 0, 16, .inl (bf2)))] H locs := ⟨hP, hD, hS⟩
  refine lv_aload_n hx hb dX1_becomeAs_76 rfl (lv_at hl 0 rfl) ?_
  refine lv_aload_n hx hb dX1_becomeAs_77 rfl (lv_at hl 1 rfl) ?_
  refine va_get (D := D) (ci := 1) (v := .int (nI (cl2))) (C := RX1) (T := TX1) (N := 13) hx hb hts i_X1_becomeAs_X1 hown hK hW.1 5 rfl rfl 9 (by decide) (hts (.fieldLink RX1 55 "TreeHashes$Hasher" "closed" "I") f_X1_becomeAs_9) (fun _ h9 => h9) rfl dX1_becomeAs_78 ?_
  refine va_put (D := D) (ci := 1) (v := .int (nI (cl2))) (ty := .int) (C := RX1) (T := TX1) (N := 13) hx hb hts i_X1_becomeAs_X1 tyX1 tyX1_ok nmX1 hown hK hW.1 hW.2.1 hW.2.2 0 rfl rfl 9 (by decide) (hts (.fieldLink RX1 55 "TreeHashes$Hasher" "closed" "I") f_X1_becomeAs_9) (fun _ h9 => h9) rfl (by decide +kernel) rfl rfl (Nat.le_of_ble_eq_true rfl) dX1_becomeAs_81 (fun H locs hP hD hS => ?_)
  have hW : Wd D A s [(h0, .inr (1, [.ref m0, .ref qk, .ref qs, .ref qc, .ref qb, .int (md2), .int (bs2), .int (nI (fc2)), .int (nI (tk2)), .int (nI (cl2)), .int (nI (dp)), .int (nI (bk)), .int (nI (ib))])), (qk, .inl (cy 0, 8, .inl (kf2))), (qs, .inl (cy 0, 40, .inl (sf2))), (qc, .inl (cy 0, 8, .inl (cf2))), (qb, .inl (cy 0, 16, .inl (bf2))), (g0, .inr (1, [.ref p0, .ref pk, .ref ps, .ref pc, .ref pb, .int (md2), .int (bs2), .int (nI (fc2)), .int (nI (tk2)), .int (nI (cl2)), .int (nI (dp2)), .int (nI (bk2)), .int (nI (ib2))])), (pk, .inl (cy 0, 8, .inl (kf2))), (ps, .inl (cy 0, 40, .inl (sf2))), (pc, .inl (cy 0, 8, .inl (cf2))), (pb, .inl (cy 0, 16, .inl (bf2)))] H locs := ⟨hP, hD, hS⟩
  refine lv_aload_n hx hb dX1_becomeAs_84 rfl (lv_at hl 0 rfl) ?_
  refine lv_aload_n hx hb dX1_becomeAs_85 rfl (lv_at hl 1 rfl) ?_
  refine va_get (D := D) (ci := 1) (v := .int (nI (dp2))) (C := RX1) (T := TX1) (N := 13) hx hb hts i_X1_becomeAs_X1 hown hK hW.1 5 rfl rfl 10 (by decide) (hts (.fieldLink RX1 58 "TreeHashes$Hasher" "depth" "I") f_X1_becomeAs_10) (fun _ h9 => h9) rfl dX1_becomeAs_86 ?_
  refine va_put (D := D) (ci := 1) (v := .int (nI (dp2))) (ty := .int) (C := RX1) (T := TX1) (N := 13) hx hb hts i_X1_becomeAs_X1 tyX1 tyX1_ok nmX1 hown hK hW.1 hW.2.1 hW.2.2 0 rfl rfl 10 (by decide) (hts (.fieldLink RX1 58 "TreeHashes$Hasher" "depth" "I") f_X1_becomeAs_10) (fun _ h9 => h9) rfl (by decide +kernel) rfl rfl (Nat.le_of_ble_eq_true rfl) dX1_becomeAs_89 (fun H locs hP hD hS => ?_)
  have hW : Wd D A s [(h0, .inr (1, [.ref m0, .ref qk, .ref qs, .ref qc, .ref qb, .int (md2), .int (bs2), .int (nI (fc2)), .int (nI (tk2)), .int (nI (cl2)), .int (nI (dp2)), .int (nI (bk)), .int (nI (ib))])), (qk, .inl (cy 0, 8, .inl (kf2))), (qs, .inl (cy 0, 40, .inl (sf2))), (qc, .inl (cy 0, 8, .inl (cf2))), (qb, .inl (cy 0, 16, .inl (bf2))), (g0, .inr (1, [.ref p0, .ref pk, .ref ps, .ref pc, .ref pb, .int (md2), .int (bs2), .int (nI (fc2)), .int (nI (tk2)), .int (nI (cl2)), .int (nI (dp2)), .int (nI (bk2)), .int (nI (ib2))])), (pk, .inl (cy 0, 8, .inl (kf2))), (ps, .inl (cy 0, 40, .inl (sf2))), (pc, .inl (cy 0, 8, .inl (cf2))), (pb, .inl (cy 0, 16, .inl (bf2)))] H locs := ⟨hP, hD, hS⟩
  refine lv_aload_n hx hb dX1_becomeAs_92 rfl (lv_at hl 0 rfl) ?_
  refine lv_aload_n hx hb dX1_becomeAs_93 rfl (lv_at hl 1 rfl) ?_
  refine va_get (D := D) (ci := 1) (v := .int (nI (bk2))) (C := RX1) (T := TX1) (N := 13) hx hb hts i_X1_becomeAs_X1 hown hK hW.1 5 rfl rfl 11 (by decide) (hts (.fieldLink RX1 64 "TreeHashes$Hasher" "blocks" "I") f_X1_becomeAs_11) (fun _ h9 => h9) rfl dX1_becomeAs_94 ?_
  refine va_put (D := D) (ci := 1) (v := .int (nI (bk2))) (ty := .int) (C := RX1) (T := TX1) (N := 13) hx hb hts i_X1_becomeAs_X1 tyX1 tyX1_ok nmX1 hown hK hW.1 hW.2.1 hW.2.2 0 rfl rfl 11 (by decide) (hts (.fieldLink RX1 64 "TreeHashes$Hasher" "blocks" "I") f_X1_becomeAs_11) (fun _ h9 => h9) rfl (by decide +kernel) rfl rfl (Nat.le_of_ble_eq_true rfl) dX1_becomeAs_97 (fun H locs hP hD hS => ?_)
  have hW : Wd D A s [(h0, .inr (1, [.ref m0, .ref qk, .ref qs, .ref qc, .ref qb, .int (md2), .int (bs2), .int (nI (fc2)), .int (nI (tk2)), .int (nI (cl2)), .int (nI (dp2)), .int (nI (bk2)), .int (nI (ib))])), (qk, .inl (cy 0, 8, .inl (kf2))), (qs, .inl (cy 0, 40, .inl (sf2))), (qc, .inl (cy 0, 8, .inl (cf2))), (qb, .inl (cy 0, 16, .inl (bf2))), (g0, .inr (1, [.ref p0, .ref pk, .ref ps, .ref pc, .ref pb, .int (md2), .int (bs2), .int (nI (fc2)), .int (nI (tk2)), .int (nI (cl2)), .int (nI (dp2)), .int (nI (bk2)), .int (nI (ib2))])), (pk, .inl (cy 0, 8, .inl (kf2))), (ps, .inl (cy 0, 40, .inl (sf2))), (pc, .inl (cy 0, 8, .inl (cf2))), (pb, .inl (cy 0, 16, .inl (bf2)))] H locs := ⟨hP, hD, hS⟩
  refine lv_aload_n hx hb dX1_becomeAs_100 rfl (lv_at hl 0 rfl) ?_
  refine lv_aload_n hx hb dX1_becomeAs_101 rfl (lv_at hl 1 rfl) ?_
  refine va_get (D := D) (ci := 1) (v := .int (nI (ib2))) (C := RX1) (T := TX1) (N := 13) hx hb hts i_X1_becomeAs_X1 hown hK hW.1 5 rfl rfl 12 (by decide) (hts (.fieldLink RX1 67 "TreeHashes$Hasher" "inBlock" "I") f_X1_becomeAs_12) (fun _ h9 => h9) rfl dX1_becomeAs_102 ?_
  refine va_put (D := D) (ci := 1) (v := .int (nI (ib2))) (ty := .int) (C := RX1) (T := TX1) (N := 13) hx hb hts i_X1_becomeAs_X1 tyX1 tyX1_ok nmX1 hown hK hW.1 hW.2.1 hW.2.2 0 rfl rfl 12 (by decide) (hts (.fieldLink RX1 67 "TreeHashes$Hasher" "inBlock" "I") f_X1_becomeAs_12) (fun _ h9 => h9) rfl (by decide +kernel) rfl rfl (Nat.le_of_ble_eq_true rfl) dX1_becomeAs_105 (fun H locs hP hD hS => ?_)
  have hW : Wd D A s [(h0, .inr (1, [.ref m0, .ref qk, .ref qs, .ref qc, .ref qb, .int (md2), .int (bs2), .int (nI (fc2)), .int (nI (tk2)), .int (nI (cl2)), .int (nI (dp2)), .int (nI (bk2)), .int (nI (ib2))])), (qk, .inl (cy 0, 8, .inl (kf2))), (qs, .inl (cy 0, 40, .inl (sf2))), (qc, .inl (cy 0, 8, .inl (cf2))), (qb, .inl (cy 0, 16, .inl (bf2))), (g0, .inr (1, [.ref p0, .ref pk, .ref ps, .ref pc, .ref pb, .int (md2), .int (bs2), .int (nI (fc2)), .int (nI (tk2)), .int (nI (cl2)), .int (nI (dp2)), .int (nI (bk2)), .int (nI (ib2))])), (pk, .inl (cy 0, 8, .inl (kf2))), (ps, .inl (cy 0, 40, .inl (sf2))), (pc, .inl (cy 0, 8, .inl (cf2))), (pb, .inl (cy 0, 16, .inl (bf2)))] H locs := ⟨hP, hD, hS⟩
  exact eV hQ hx hb hr hlocks hK hW () (trivial) (rfl) dX1_becomeAs_108

theorem f_X1_becomeAs_a_0 : Cond.fieldLink RX1 18 "TreeHashes$Hasher" "key" "[I" ∈ wsX1_becomeAs := by decide +kernel
theorem i_X1_becomeAs_a_X1 : ∀ w ∈ wsX10, w ∈ wsX1_becomeAs := by decide +kernel
theorem f_X1_becomeAs_a_2 : Cond.fieldLink RX1 22 "TreeHashes$Hasher" "stack" "[I" ∈ wsX1_becomeAs := by decide +kernel
theorem f_X1_becomeAs_a_3 : Cond.fieldLink RX1 25 "TreeHashes$Hasher" "chunkChain" "[I" ∈ wsX1_becomeAs := by decide +kernel
theorem f_X1_becomeAs_a_4 : Cond.fieldLink RX1 28 "TreeHashes$Hasher" "block" "[I" ∈ wsX1_becomeAs := by decide +kernel
theorem f_X1_becomeAs_a_5 : Cond.fieldLink RX1 42 "TreeHashes$Hasher" "mode" "I" ∈ wsX1_becomeAs := by decide +kernel
theorem f_X1_becomeAs_a_6 : Cond.fieldLink RX1 46 "TreeHashes$Hasher" "base" "I" ∈ wsX1_becomeAs := by decide +kernel
theorem f_X1_becomeAs_a_7 : Cond.fieldLink RX1 49 "TreeHashes$Hasher" "firstChunk" "I" ∈ wsX1_becomeAs := by decide +kernel
theorem f_X1_becomeAs_a_8 : Cond.fieldLink RX1 52 "TreeHashes$Hasher" "taken" "I" ∈ wsX1_becomeAs := by decide +kernel
theorem f_X1_becomeAs_a_9 : Cond.fieldLink RX1 55 "TreeHashes$Hasher" "closed" "I" ∈ wsX1_becomeAs := by decide +kernel
theorem f_X1_becomeAs_a_10 : Cond.fieldLink RX1 58 "TreeHashes$Hasher" "depth" "I" ∈ wsX1_becomeAs := by decide +kernel
theorem f_X1_becomeAs_a_11 : Cond.fieldLink RX1 64 "TreeHashes$Hasher" "blocks" "I" ∈ wsX1_becomeAs := by decide +kernel
theorem f_X1_becomeAs_a_12 : Cond.fieldLink RX1 67 "TreeHashes$Hasher" "inBlock" "I" ∈ wsX1_becomeAs := by decide +kernel
set_option maxHeartbeats 4000000 in
set_option maxRecDepth 100000 in
theorem c_X1_becomeAs_a (l : Launch) (D : va_G) (cy : Nat → ClassId) (t : Nat × Nat) (m0 : Nat) (h0 : Nat) (qk : Nat) (qs : Nat) (qc : Nat) (qb : Nat) (md : Int32) (bs : Int32) (fc : Nat) (tk : Nat) (cl : Nat) (dp : Nat) (bk : Nat) (ib : Nat) (kf : Nat → Int32) (sf : Nat → Int32) (cf : Nat → Int32) (bf : Nat → Int32)  (sz : Nat) : Met l yX1_becomeAs wsX1_becomeAs ({ frames := 1, cells := 0, slots := 0, locals := 22 }) (PcW D cy t [(h0, .inr (1, [.ref m0, .ref qk, .ref qs, .ref qc, .ref qb, .int (md), .int (bs), .int (nI (fc)), .int (nI (tk)), .int (nI (cl)), .int (nI (dp)), .int (nI (bk)), .int (nI (ib))])), (qk, .inl (cy 0, 8, .inl (kf))), (qs, .inl (cy 0, 40, .inl (sf))), (qc, .inl (cy 0, 8, .inl (cf))), (qb, .inl (cy 0, 16, .inl (bf)))] [.ref h0, .ref h0] sz) (QvA D cy (fun u : Unit => True) (fun u : Unit => [(h0, .inr (1, [.ref m0, .ref qk, .ref qs, .ref qc, .ref qb, .int (md), .int (bs), .int (nI (fc)), .int (nI (tk)), .int (nI (cl)), .int (nI (dp)), .int (nI (bk)), .int (nI (ib))])), (qk, .inl (cy 0, 8, .inl (kf))), (qs, .inl (cy 0, 40, .inl (sf))), (qc, .inl (cy 0, 8, .inl (cf))), (qb, .inl (cy 0, 16, .inl (bf)))]) (va_A [(h0, .inr (1, [.ref m0, .ref qk, .ref qs, .ref qc, .ref qb, .int (md), .int (bs), .int (nI (fc)), .int (nI (tk)), .int (nI (cl)), .int (nI (dp)), .int (nI (bk)), .int (nI (ib))])), (qk, .inl (cy 0, 8, .inl (kf))), (qs, .inl (cy 0, 40, .inl (sf))), (qc, .inl (cy 0, 8, .inl (cf))), (qb, .inl (cy 0, 16, .inl (bf)))] sz)) 0 0 (va_A [(h0, .inr (1, [.ref m0, .ref qk, .ref qs, .ref qc, .ref qb, .int (md), .int (bs), .int (nI (fc)), .int (nI (tk)), .int (nI (cl)), .int (nI (dp)), .int (nI (bk)), .int (nI (ib))])), (qk, .inl (cy 0, 8, .inl (kf))), (qs, .inl (cy 0, 40, .inl (sf))), (qc, .inl (cy 0, 8, .inl (cf))), (qb, .inl (cy 0, 16, .inl (bf)))] sz) := by
  refine M_ofW (cc := cX1_becomeAs) (maxL := 2) (ret := none) (by decide) rfl (Nat.le_of_ble_eq_true rfl) ?_
  intro p e s m below meth c A ls args Q hQ S0 hr hlocks hnm hK hst hA hW hl
  have hx := S0.1; have hb := S0.2.1; have hml := S0.2.2.1; have hown := S0.2.2.2.1; have hts := S0.2.2.2.2
  have hl : lv_has ls 2 [(0, .ref h0), (1, .ref h0)] := hl
  refine lv_aload_n hx hb dX1_becomeAs_0 rfl (lv_at hl 1 rfl) ?_
  refine va_get (D := D) (ci := 1) (v := .ref qk) (C := RX1) (T := TX1) (N := 13) hx hb hts i_X1_becomeAs_a_X1 hown hK hW.1 0 rfl rfl 1 (by decide) (hts (.fieldLink RX1 18 "TreeHashes$Hasher" "key" "[I") f_X1_becomeAs_a_0) (fun _ h9 => h9) rfl dX1_becomeAs_1 ?_
  refine lv_aload_n hx hb dX1_becomeAs_4 rfl (lv_at hl 0 rfl) ?_
  refine va_get (D := D) (ci := 1) (v := .ref qk) (C := RX1) (T := TX1) (N := 13) hx hb hts i_X1_becomeAs_a_X1 hown hK hW.1 0 rfl rfl 1 (by decide) (hts (.fieldLink RX1 18 "TreeHashes$Hasher" "key" "[I") f_X1_becomeAs_a_0) (fun _ h9 => h9) rfl dX1_becomeAs_5 ?_
  refine kSv (As := [.ref qk, .ref qk]) (rest := []) S0 hK hst hA hW [1] (fun sz => c_X1_copyWords_a l D cy t qk 8 kf (by omega) sz) rfl (by decide) (va_cwS 2 hts gX1_becomeAs_X1_copyWords rfl rfl rfl (by decide +kernel) ⟨Nat.le_of_ble_eq_true rfl, Nat.le_of_ble_eq_true rfl⟩) (fun _ => rfl) rfl hl.1 rfl (Nat.le_of_ble_eq_true rfl) dX1_becomeAs_8 ⟨Nat.le_of_ble_eq_true rfl, Nat.le_of_ble_eq_true rfl⟩ (fun u8 H locs p8 hW => ?_)
  have hW : Wd D A s [(h0, .inr (1, [.ref m0, .ref qk, .ref qs, .ref qc, .ref qb, .int (md), .int (bs), .int (nI (fc)), .int (nI (tk)), .int (nI (cl)), .int (nI (dp)), .int (nI (bk)), .int (nI (ib))])), (qk, .inl (cy 0, 8, .inl (kf))), (qs, .inl (cy 0, 40, .inl (sf))), (qc, .inl (cy 0, 8, .inl (cf))), (qb, .inl (cy 0, 16, .inl (bf)))] H locs := hW
  refine lv_aload_n hx hb dX1_becomeAs_11 rfl (lv_at hl 1 rfl) ?_
  refine va_get (D := D) (ci := 1) (v := .ref qs) (C := RX1) (T := TX1) (N := 13) hx hb hts i_X1_becomeAs_a_X1 hown hK hW.1 0 rfl rfl 2 (by decide) (hts (.fieldLink RX1 22 "TreeHashes$Hasher" "stack" "[I") f_X1_becomeAs_a_2) (fun _ h9 => h9) rfl dX1_becomeAs_12 ?_
  refine lv_aload_n hx hb dX1_becomeAs_15 rfl (lv_at hl 0 rfl) ?_
  refine va_get (D := D) (ci := 1) (v := .ref qs) (C := RX1) (T := TX1) (N := 13) hx hb hts i_X1_becomeAs_a_X1 hown hK hW.1 0 rfl rfl 2 (by decide) (hts (.fieldLink RX1 22 "TreeHashes$Hasher" "stack" "[I") f_X1_becomeAs_a_2) (fun _ h9 => h9) rfl dX1_becomeAs_16 ?_
  refine kSv (As := [.ref qs, .ref qs]) (rest := []) S0 hK hst hA hW [2] (fun sz => c_X1_copyWords_a l D cy t qs 40 sf (by omega) sz) rfl (by decide) (va_cwS 2 hts gX1_becomeAs_X1_copyWords rfl rfl rfl (by decide +kernel) ⟨Nat.le_of_ble_eq_true rfl, Nat.le_of_ble_eq_true rfl⟩) (fun _ => rfl) rfl hl.1 rfl (Nat.le_of_ble_eq_true rfl) dX1_becomeAs_19 ⟨Nat.le_of_ble_eq_true rfl, Nat.le_of_ble_eq_true rfl⟩ (fun u19 H locs p19 hW => ?_)
  have hW : Wd D A s [(h0, .inr (1, [.ref m0, .ref qk, .ref qs, .ref qc, .ref qb, .int (md), .int (bs), .int (nI (fc)), .int (nI (tk)), .int (nI (cl)), .int (nI (dp)), .int (nI (bk)), .int (nI (ib))])), (qk, .inl (cy 0, 8, .inl (kf))), (qs, .inl (cy 0, 40, .inl (sf))), (qc, .inl (cy 0, 8, .inl (cf))), (qb, .inl (cy 0, 16, .inl (bf)))] H locs := hW
  refine lv_aload_n hx hb dX1_becomeAs_22 rfl (lv_at hl 1 rfl) ?_
  refine va_get (D := D) (ci := 1) (v := .ref qc) (C := RX1) (T := TX1) (N := 13) hx hb hts i_X1_becomeAs_a_X1 hown hK hW.1 0 rfl rfl 3 (by decide) (hts (.fieldLink RX1 25 "TreeHashes$Hasher" "chunkChain" "[I") f_X1_becomeAs_a_3) (fun _ h9 => h9) rfl dX1_becomeAs_23 ?_
  refine lv_aload_n hx hb dX1_becomeAs_26 rfl (lv_at hl 0 rfl) ?_
  refine va_get (D := D) (ci := 1) (v := .ref qc) (C := RX1) (T := TX1) (N := 13) hx hb hts i_X1_becomeAs_a_X1 hown hK hW.1 0 rfl rfl 3 (by decide) (hts (.fieldLink RX1 25 "TreeHashes$Hasher" "chunkChain" "[I") f_X1_becomeAs_a_3) (fun _ h9 => h9) rfl dX1_becomeAs_27 ?_
  refine kSv (As := [.ref qc, .ref qc]) (rest := []) S0 hK hst hA hW [3] (fun sz => c_X1_copyWords_a l D cy t qc 8 cf (by omega) sz) rfl (by decide) (va_cwS 2 hts gX1_becomeAs_X1_copyWords rfl rfl rfl (by decide +kernel) ⟨Nat.le_of_ble_eq_true rfl, Nat.le_of_ble_eq_true rfl⟩) (fun _ => rfl) rfl hl.1 rfl (Nat.le_of_ble_eq_true rfl) dX1_becomeAs_30 ⟨Nat.le_of_ble_eq_true rfl, Nat.le_of_ble_eq_true rfl⟩ (fun u30 H locs p30 hW => ?_)
  have hW : Wd D A s [(h0, .inr (1, [.ref m0, .ref qk, .ref qs, .ref qc, .ref qb, .int (md), .int (bs), .int (nI (fc)), .int (nI (tk)), .int (nI (cl)), .int (nI (dp)), .int (nI (bk)), .int (nI (ib))])), (qk, .inl (cy 0, 8, .inl (kf))), (qs, .inl (cy 0, 40, .inl (sf))), (qc, .inl (cy 0, 8, .inl (cf))), (qb, .inl (cy 0, 16, .inl (bf)))] H locs := hW
  refine lv_aload_n hx hb dX1_becomeAs_33 rfl (lv_at hl 1 rfl) ?_
  refine va_get (D := D) (ci := 1) (v := .ref qb) (C := RX1) (T := TX1) (N := 13) hx hb hts i_X1_becomeAs_a_X1 hown hK hW.1 0 rfl rfl 4 (by decide) (hts (.fieldLink RX1 28 "TreeHashes$Hasher" "block" "[I") f_X1_becomeAs_a_4) (fun _ h9 => h9) rfl dX1_becomeAs_34 ?_
  refine lv_aload_n hx hb dX1_becomeAs_37 rfl (lv_at hl 0 rfl) ?_
  refine va_get (D := D) (ci := 1) (v := .ref qb) (C := RX1) (T := TX1) (N := 13) hx hb hts i_X1_becomeAs_a_X1 hown hK hW.1 0 rfl rfl 4 (by decide) (hts (.fieldLink RX1 28 "TreeHashes$Hasher" "block" "[I") f_X1_becomeAs_a_4) (fun _ h9 => h9) rfl dX1_becomeAs_38 ?_
  refine kSv (As := [.ref qb, .ref qb]) (rest := []) S0 hK hst hA hW [4] (fun sz => c_X1_copyWords_a l D cy t qb 16 bf (by omega) sz) rfl (by decide) (va_cwS 2 hts gX1_becomeAs_X1_copyWords rfl rfl rfl (by decide +kernel) ⟨Nat.le_of_ble_eq_true rfl, Nat.le_of_ble_eq_true rfl⟩) (fun _ => rfl) rfl hl.1 rfl (Nat.le_of_ble_eq_true rfl) dX1_becomeAs_41 ⟨Nat.le_of_ble_eq_true rfl, Nat.le_of_ble_eq_true rfl⟩ (fun u41 H locs p41 hW => ?_)
  have hW : Wd D A s [(h0, .inr (1, [.ref m0, .ref qk, .ref qs, .ref qc, .ref qb, .int (md), .int (bs), .int (nI (fc)), .int (nI (tk)), .int (nI (cl)), .int (nI (dp)), .int (nI (bk)), .int (nI (ib))])), (qk, .inl (cy 0, 8, .inl (kf))), (qs, .inl (cy 0, 40, .inl (sf))), (qc, .inl (cy 0, 8, .inl (cf))), (qb, .inl (cy 0, 16, .inl (bf)))] H locs := hW
  refine lv_aload_n hx hb dX1_becomeAs_44 rfl (lv_at hl 0 rfl) ?_
  refine lv_aload_n hx hb dX1_becomeAs_45 rfl (lv_at hl 1 rfl) ?_
  refine va_get (D := D) (ci := 1) (v := .int (md)) (C := RX1) (T := TX1) (N := 13) hx hb hts i_X1_becomeAs_a_X1 hown hK hW.1 0 rfl rfl 5 (by decide) (hts (.fieldLink RX1 42 "TreeHashes$Hasher" "mode" "I") f_X1_becomeAs_a_5) (fun _ h9 => h9) rfl dX1_becomeAs_46 ?_
  refine va_put (D := D) (ci := 1) (v := .int (md)) (ty := .int) (C := RX1) (T := TX1) (N := 13) hx hb hts i_X1_becomeAs_a_X1 tyX1 tyX1_ok nmX1 hown hK hW.1 hW.2.1 hW.2.2 0 rfl rfl 5 (by decide) (hts (.fieldLink RX1 42 "TreeHashes$Hasher" "mode" "I") f_X1_becomeAs_a_5) (fun _ h9 => h9) rfl (by decide +kernel) rfl rfl (Nat.le_of_ble_eq_true rfl) dX1_becomeAs_49 (fun H locs hP hD hS => ?_)
  have hW : Wd D A s [(h0, .inr (1, [.ref m0, .ref qk, .ref qs, .ref qc, .ref qb, .int (md), .int (bs), .int (nI (fc)), .int (nI (tk)), .int (nI (cl)), .int (nI (dp)), .int (nI (bk)), .int (nI (ib))])), (qk, .inl (cy 0, 8, .inl (kf))), (qs, .inl (cy 0, 40, .inl (sf))), (qc, .inl (cy 0, 8, .inl (cf))), (qb, .inl (cy 0, 16, .inl (bf)))] H locs := ⟨hP, hD, hS⟩
  refine lv_aload_n hx hb dX1_becomeAs_52 rfl (lv_at hl 0 rfl) ?_
  refine lv_aload_n hx hb dX1_becomeAs_53 rfl (lv_at hl 1 rfl) ?_
  refine va_get (D := D) (ci := 1) (v := .int (bs)) (C := RX1) (T := TX1) (N := 13) hx hb hts i_X1_becomeAs_a_X1 hown hK hW.1 0 rfl rfl 6 (by decide) (hts (.fieldLink RX1 46 "TreeHashes$Hasher" "base" "I") f_X1_becomeAs_a_6) (fun _ h9 => h9) rfl dX1_becomeAs_54 ?_
  refine va_put (D := D) (ci := 1) (v := .int (bs)) (ty := .int) (C := RX1) (T := TX1) (N := 13) hx hb hts i_X1_becomeAs_a_X1 tyX1 tyX1_ok nmX1 hown hK hW.1 hW.2.1 hW.2.2 0 rfl rfl 6 (by decide) (hts (.fieldLink RX1 46 "TreeHashes$Hasher" "base" "I") f_X1_becomeAs_a_6) (fun _ h9 => h9) rfl (by decide +kernel) rfl rfl (Nat.le_of_ble_eq_true rfl) dX1_becomeAs_57 (fun H locs hP hD hS => ?_)
  have hW : Wd D A s [(h0, .inr (1, [.ref m0, .ref qk, .ref qs, .ref qc, .ref qb, .int (md), .int (bs), .int (nI (fc)), .int (nI (tk)), .int (nI (cl)), .int (nI (dp)), .int (nI (bk)), .int (nI (ib))])), (qk, .inl (cy 0, 8, .inl (kf))), (qs, .inl (cy 0, 40, .inl (sf))), (qc, .inl (cy 0, 8, .inl (cf))), (qb, .inl (cy 0, 16, .inl (bf)))] H locs := ⟨hP, hD, hS⟩
  refine lv_aload_n hx hb dX1_becomeAs_60 rfl (lv_at hl 0 rfl) ?_
  refine lv_aload_n hx hb dX1_becomeAs_61 rfl (lv_at hl 1 rfl) ?_
  refine va_get (D := D) (ci := 1) (v := .int (nI (fc))) (C := RX1) (T := TX1) (N := 13) hx hb hts i_X1_becomeAs_a_X1 hown hK hW.1 0 rfl rfl 7 (by decide) (hts (.fieldLink RX1 49 "TreeHashes$Hasher" "firstChunk" "I") f_X1_becomeAs_a_7) (fun _ h9 => h9) rfl dX1_becomeAs_62 ?_
  refine va_put (D := D) (ci := 1) (v := .int (nI (fc))) (ty := .int) (C := RX1) (T := TX1) (N := 13) hx hb hts i_X1_becomeAs_a_X1 tyX1 tyX1_ok nmX1 hown hK hW.1 hW.2.1 hW.2.2 0 rfl rfl 7 (by decide) (hts (.fieldLink RX1 49 "TreeHashes$Hasher" "firstChunk" "I") f_X1_becomeAs_a_7) (fun _ h9 => h9) rfl (by decide +kernel) rfl rfl (Nat.le_of_ble_eq_true rfl) dX1_becomeAs_65 (fun H locs hP hD hS => ?_)
  have hW : Wd D A s [(h0, .inr (1, [.ref m0, .ref qk, .ref qs, .ref qc, .ref qb, .int (md), .int (bs), .int (nI (fc)), .int (nI (tk)), .int (nI (cl)), .int (nI (dp)), .int (nI (bk)), .int (nI (ib))])), (qk, .inl (cy 0, 8, .inl (kf))), (qs, .inl (cy 0, 40, .inl (sf))), (qc, .inl (cy 0, 8, .inl (cf))), (qb, .inl (cy 0, 16, .inl (bf)))] H locs := ⟨hP, hD, hS⟩
  refine lv_aload_n hx hb dX1_becomeAs_68 rfl (lv_at hl 0 rfl) ?_
  refine lv_aload_n hx hb dX1_becomeAs_69 rfl (lv_at hl 1 rfl) ?_
  refine va_get (D := D) (ci := 1) (v := .int (nI (tk))) (C := RX1) (T := TX1) (N := 13) hx hb hts i_X1_becomeAs_a_X1 hown hK hW.1 0 rfl rfl 8 (by decide) (hts (.fieldLink RX1 52 "TreeHashes$Hasher" "taken" "I") f_X1_becomeAs_a_8) (fun _ h9 => h9) rfl dX1_becomeAs_70 ?_
  refine va_put (D := D) (ci := 1) (v := .int (nI (tk))) (ty := .int) (C := RX1) (T := TX1) (N := 13) hx hb hts i_X1_becomeAs_a_X1 tyX1 tyX1_ok nmX1 hown hK hW.1 hW.2.1 hW.2.2 0 rfl rfl 8 (by decide) (hts (.fieldLink RX1 52 "TreeHashes$Hasher" "taken" "I") f_X1_becomeAs_a_8) (fun _ h9 => h9) rfl (by decide +kernel) rfl rfl (Nat.le_of_ble_eq_true rfl) dX1_becomeAs_73 (fun H locs hP hD hS => ?_)
  have hW : Wd D A s [(h0, .inr (1, [.ref m0, .ref qk, .ref qs, .ref qc, .ref qb, .int (md), .int (bs), .int (nI (fc)), .int (nI (tk)), .int (nI (cl)), .int (nI (dp)), .int (nI (bk)), .int (nI (ib))])), (qk, .inl (cy 0, 8, .inl (kf))), (qs, .inl (cy 0, 40, .inl (sf))), (qc, .inl (cy 0, 8, .inl (cf))), (qb, .inl (cy 0, 16, .inl (bf)))] H locs := ⟨hP, hD, hS⟩
  refine lv_aload_n hx hb dX1_becomeAs_76 rfl (lv_at hl 0 rfl) ?_
  refine lv_aload_n hx hb dX1_becomeAs_77 rfl (lv_at hl 1 rfl) ?_
  refine va_get (D := D) (ci := 1) (v := .int (nI (cl))) (C := RX1) (T := TX1) (N := 13) hx hb hts i_X1_becomeAs_a_X1 hown hK hW.1 0 rfl rfl 9 (by decide) (hts (.fieldLink RX1 55 "TreeHashes$Hasher" "closed" "I") f_X1_becomeAs_a_9) (fun _ h9 => h9) rfl dX1_becomeAs_78 ?_
  refine va_put (D := D) (ci := 1) (v := .int (nI (cl))) (ty := .int) (C := RX1) (T := TX1) (N := 13) hx hb hts i_X1_becomeAs_a_X1 tyX1 tyX1_ok nmX1 hown hK hW.1 hW.2.1 hW.2.2 0 rfl rfl 9 (by decide) (hts (.fieldLink RX1 55 "TreeHashes$Hasher" "closed" "I") f_X1_becomeAs_a_9) (fun _ h9 => h9) rfl (by decide +kernel) rfl rfl (Nat.le_of_ble_eq_true rfl) dX1_becomeAs_81 (fun H locs hP hD hS => ?_)
  have hW : Wd D A s [(h0, .inr (1, [.ref m0, .ref qk, .ref qs, .ref qc, .ref qb, .int (md), .int (bs), .int (nI (fc)), .int (nI (tk)), .int (nI (cl)), .int (nI (dp)), .int (nI (bk)), .int (nI (ib))])), (qk, .inl (cy 0, 8, .inl (kf))), (qs, .inl (cy 0, 40, .inl (sf))), (qc, .inl (cy 0, 8, .inl (cf))), (qb, .inl (cy 0, 16, .inl (bf)))] H locs := ⟨hP, hD, hS⟩
  refine lv_aload_n hx hb dX1_becomeAs_84 rfl (lv_at hl 0 rfl) ?_
  refine lv_aload_n hx hb dX1_becomeAs_85 rfl (lv_at hl 1 rfl) ?_
  refine va_get (D := D) (ci := 1) (v := .int (nI (dp))) (C := RX1) (T := TX1) (N := 13) hx hb hts i_X1_becomeAs_a_X1 hown hK hW.1 0 rfl rfl 10 (by decide) (hts (.fieldLink RX1 58 "TreeHashes$Hasher" "depth" "I") f_X1_becomeAs_a_10) (fun _ h9 => h9) rfl dX1_becomeAs_86 ?_
  refine va_put (D := D) (ci := 1) (v := .int (nI (dp))) (ty := .int) (C := RX1) (T := TX1) (N := 13) hx hb hts i_X1_becomeAs_a_X1 tyX1 tyX1_ok nmX1 hown hK hW.1 hW.2.1 hW.2.2 0 rfl rfl 10 (by decide) (hts (.fieldLink RX1 58 "TreeHashes$Hasher" "depth" "I") f_X1_becomeAs_a_10) (fun _ h9 => h9) rfl (by decide +kernel) rfl rfl (Nat.le_of_ble_eq_true rfl) dX1_becomeAs_89 (fun H locs hP hD hS => ?_)
  have hW : Wd D A s [(h0, .inr (1, [.ref m0, .ref qk, .ref qs, .ref qc, .ref qb, .int (md), .int (bs), .int (nI (fc)), .int (nI (tk)), .int (nI (cl)), .int (nI (dp)), .int (nI (bk)), .int (nI (ib))])), (qk, .inl (cy 0, 8, .inl (kf))), (qs, .inl (cy 0, 40, .inl (sf))), (qc, .inl (cy 0, 8, .inl (cf))), (qb, .inl (cy 0, 16, .inl (bf)))] H locs := ⟨hP, hD, hS⟩
  refine lv_aload_n hx hb dX1_becomeAs_92 rfl (lv_at hl 0 rfl) ?_
  refine lv_aload_n hx hb dX1_becomeAs_93 rfl (lv_at hl 1 rfl) ?_
  refine va_get (D := D) (ci := 1) (v := .int (nI (bk))) (C := RX1) (T := TX1) (N := 13) hx hb hts i_X1_becomeAs_a_X1 hown hK hW.1 0 rfl rfl 11 (by decide) (hts (.fieldLink RX1 64 "TreeHashes$Hasher" "blocks" "I") f_X1_becomeAs_a_11) (fun _ h9 => h9) rfl dX1_becomeAs_94 ?_
  refine va_put (D := D) (ci := 1) (v := .int (nI (bk))) (ty := .int) (C := RX1) (T := TX1) (N := 13) hx hb hts i_X1_becomeAs_a_X1 tyX1 tyX1_ok nmX1 hown hK hW.1 hW.2.1 hW.2.2 0 rfl rfl 11 (by decide) (hts (.fieldLink RX1 64 "TreeHashes$Hasher" "blocks" "I") f_X1_becomeAs_a_11) (fun _ h9 => h9) rfl (by decide +kernel) rfl rfl (Nat.le_of_ble_eq_true rfl) dX1_becomeAs_97 (fun H locs hP hD hS => ?_)
  have hW : Wd D A s [(h0, .inr (1, [.ref m0, .ref qk, .ref qs, .ref qc, .ref qb, .int (md), .int (bs), .int (nI (fc)), .int (nI (tk)), .int (nI (cl)), .int (nI (dp)), .int (nI (bk)), .int (nI (ib))])), (qk, .inl (cy 0, 8, .inl (kf))), (qs, .inl (cy 0, 40, .inl (sf))), (qc, .inl (cy 0, 8, .inl (cf))), (qb, .inl (cy 0, 16, .inl (bf)))] H locs := ⟨hP, hD, hS⟩
  refine lv_aload_n hx hb dX1_becomeAs_100 rfl (lv_at hl 0 rfl) ?_
  refine lv_aload_n hx hb dX1_becomeAs_101 rfl (lv_at hl 1 rfl) ?_
  refine va_get (D := D) (ci := 1) (v := .int (nI (ib))) (C := RX1) (T := TX1) (N := 13) hx hb hts i_X1_becomeAs_a_X1 hown hK hW.1 0 rfl rfl 12 (by decide) (hts (.fieldLink RX1 67 "TreeHashes$Hasher" "inBlock" "I") f_X1_becomeAs_a_12) (fun _ h9 => h9) rfl dX1_becomeAs_102 ?_
  refine va_put (D := D) (ci := 1) (v := .int (nI (ib))) (ty := .int) (C := RX1) (T := TX1) (N := 13) hx hb hts i_X1_becomeAs_a_X1 tyX1 tyX1_ok nmX1 hown hK hW.1 hW.2.1 hW.2.2 0 rfl rfl 12 (by decide) (hts (.fieldLink RX1 67 "TreeHashes$Hasher" "inBlock" "I") f_X1_becomeAs_a_12) (fun _ h9 => h9) rfl (by decide +kernel) rfl rfl (Nat.le_of_ble_eq_true rfl) dX1_becomeAs_105 (fun H locs hP hD hS => ?_)
  have hW : Wd D A s [(h0, .inr (1, [.ref m0, .ref qk, .ref qs, .ref qc, .ref qb, .int (md), .int (bs), .int (nI (fc)), .int (nI (tk)), .int (nI (cl)), .int (nI (dp)), .int (nI (bk)), .int (nI (ib))])), (qk, .inl (cy 0, 8, .inl (kf))), (qs, .inl (cy 0, 40, .inl (sf))), (qc, .inl (cy 0, 8, .inl (cf))), (qb, .inl (cy 0, 16, .inl (bf)))] H locs := ⟨hP, hD, hS⟩
  exact eV hQ hx hb hr hlocks hK hW () (trivial) (rfl) dX1_becomeAs_108

theorem f_X1_inChunk_0 : Cond.fieldLink RX1 64 "TreeHashes$Hasher" "blocks" "I" ∈ wsX1_inChunk := by decide +kernel
theorem i_X1_inChunk_X1 : ∀ w ∈ wsX10, w ∈ wsX1_inChunk := by decide +kernel
theorem f_X1_inChunk_2 : Cond.fieldLink RX1 67 "TreeHashes$Hasher" "inBlock" "I" ∈ wsX1_inChunk := by decide +kernel
set_option maxHeartbeats 4000000 in
set_option maxRecDepth 100000 in
theorem c_X1_inChunk (l : Launch) (D : va_G) (cy : Nat → ClassId) (t : Nat × Nat) (m0 : Nat) (h0 : Nat) (qk : Nat) (qs : Nat) (qc : Nat) (qb : Nat) (md : Int32) (bs : Int32) (fc : Nat) (tk : Nat) (cl : Nat) (dp : Nat) (bk : Nat) (ib : Nat)  (sz : Nat) : Met l yX1_inChunk wsX1_inChunk ({ frames := 0, cells := 0, slots := 0, locals := 0 }) (PcW D cy t [(h0, .inr (1, [.ref m0, .ref qk, .ref qs, .ref qc, .ref qb, .int (md), .int (bs), .int (nI (fc)), .int (nI (tk)), .int (nI (cl)), .int (nI (dp)), .int (nI (bk)), .int (nI (ib))]))] [.ref h0] sz) (QiA D cy (fun (r : Int32) (u : Unit) => (r = nI (bk * 64 + ib))) (fun u : Unit => [(h0, .inr (1, [.ref m0, .ref qk, .ref qs, .ref qc, .ref qb, .int (md), .int (bs), .int (nI (fc)), .int (nI (tk)), .int (nI (cl)), .int (nI (dp)), .int (nI (bk)), .int (nI (ib))]))]) (va_A [(h0, .inr (1, [.ref m0, .ref qk, .ref qs, .ref qc, .ref qb, .int (md), .int (bs), .int (nI (fc)), .int (nI (tk)), .int (nI (cl)), .int (nI (dp)), .int (nI (bk)), .int (nI (ib))]))] sz)) 0 0 (va_A [(h0, .inr (1, [.ref m0, .ref qk, .ref qs, .ref qc, .ref qb, .int (md), .int (bs), .int (nI (fc)), .int (nI (tk)), .int (nI (cl)), .int (nI (dp)), .int (nI (bk)), .int (nI (ib))]))] sz) := by
  refine M_ofW (cc := cX1_inChunk) (maxL := 1) (ret := (some .int)) (by decide) rfl (Nat.le_of_ble_eq_true rfl) ?_
  intro p e s m below meth c A ls args Q hQ S0 hr hlocks hnm hK hst hA hW hl
  have hx := S0.1; have hb := S0.2.1; have hml := S0.2.2.1; have hown := S0.2.2.2.1; have hts := S0.2.2.2.2
  have hl : lv_has ls 1 [(0, .ref h0)] := hl
  refine lv_aload_n hx hb dX1_inChunk_0 rfl (lv_at hl 0 rfl) ?_
  refine va_get (D := D) (ci := 1) (v := .int (nI (bk))) (C := RX1) (T := TX1) (N := 13) hx hb hts i_X1_inChunk_X1 hown hK hW.1 0 rfl rfl 11 (by decide) (hts (.fieldLink RX1 64 "TreeHashes$Hasher" "blocks" "I") f_X1_inChunk_0) (fun _ h9 => h9) rfl dX1_inChunk_1 ?_
  refine lv_bipush (v := nI (64)) hx hb dX1_inChunk_4 (by decide) ?_
  refine lv_imul hx hb dX1_inChunk_6 ?_
  refine tI (pk_mul _ _) ?_
  refine lv_aload_n hx hb dX1_inChunk_7 rfl (lv_at hl 0 rfl) ?_
  refine va_get (D := D) (ci := 1) (v := .int (nI (ib))) (C := RX1) (T := TX1) (N := 13) hx hb hts i_X1_inChunk_X1 hown hK hW.1 0 rfl rfl 12 (by decide) (hts (.fieldLink RX1 67 "TreeHashes$Hasher" "inBlock" "I") f_X1_inChunk_2) (fun _ h9 => h9) rfl dX1_inChunk_8 ?_
  refine lv_iadd hx hb dX1_inChunk_11 ?_
  refine tI (nI_add _ _) ?_
  exact eI hQ hx hb hr hlocks hK hW () (rfl) (rfl) dX1_inChunk_12

theorem f_X1_stackWord_0 : Cond.fieldLink RX1 58 "TreeHashes$Hasher" "depth" "I" ∈ wsX1_stackWord := by decide +kernel
theorem i_X1_stackWord_X1 : ∀ w ∈ wsX10, w ∈ wsX1_stackWord := by decide +kernel
theorem f_X1_stackWord_2 : Cond.fieldLink RX1 22 "TreeHashes$Hasher" "stack" "[I" ∈ wsX1_stackWord := by decide +kernel
set_option maxHeartbeats 4000000 in
set_option maxRecDepth 100000 in
theorem c_X1_stackWord (l : Launch) (D : va_G) (cy : Nat → ClassId) (t : Nat × Nat) (m0 : Nat) (h0 : Nat) (qk : Nat) (qs : Nat) (qc : Nat) (qb : Nat) (md : Int32) (bs : Int32) (fc : Nat) (tk : Nat) (cl : Nat) (dp : Nat) (bk : Nat) (ib : Nat) (sf : Nat → Int32) (x : Int32) (y : Int32) (hd : dp ≤ 5) (sz : Nat) : Met l yX1_stackWord wsX1_stackWord ({ frames := 0, cells := 0, slots := 0, locals := 0 }) (PcW D cy t [(h0, .inr (1, [.ref m0, .ref qk, .ref qs, .ref qc, .ref qb, .int (md), .int (bs), .int (nI (fc)), .int (nI (tk)), .int (nI (cl)), .int (nI (dp)), .int (nI (bk)), .int (nI (ib))])), (qs, .inl (cy 0, 40, .inl (sf)))] [.ref h0, .int (x), .int (y)] sz) (QiA D cy (fun (r : Int32) (u : Unit) => ((r = 0 ∧ (x < 0 ∨ nI dp ≤ x ∨ y < 0 ∨ nI 8 ≤ y)) ∨ ∃ a b : Nat, a < dp ∧ b < 8 ∧ x = nI a ∧ y = nI b ∧ r = sf (a * 8 + b))) (fun u : Unit => [(h0, .inr (1, [.ref m0, .ref qk, .ref qs, .ref qc, .ref qb, .int (md), .int (bs), .int (nI (fc)), .int (nI (tk)), .int (nI (cl)), .int (nI (dp)), .int (nI (bk)), .int (nI (ib))])), (qs, .inl (cy 0, 40, .inl (sf)))]) (va_A [(h0, .inr (1, [.ref m0, .ref qk, .ref qs, .ref qc, .ref qb, .int (md), .int (bs), .int (nI (fc)), .int (nI (tk)), .int (nI (cl)), .int (nI (dp)), .int (nI (bk)), .int (nI (ib))])), (qs, .inl (cy 0, 40, .inl (sf)))] sz)) 0 0 (va_A [(h0, .inr (1, [.ref m0, .ref qk, .ref qs, .ref qc, .ref qb, .int (md), .int (bs), .int (nI (fc)), .int (nI (tk)), .int (nI (cl)), .int (nI (dp)), .int (nI (bk)), .int (nI (ib))])), (qs, .inl (cy 0, 40, .inl (sf)))] sz) := by
  refine M_ofW (cc := cX1_stackWord) (maxL := 3) (ret := (some .int)) (by decide) rfl (Nat.le_of_ble_eq_true rfl) ?_
  intro p e s m below meth c A ls args Q hQ S0 hr hlocks hnm hK hst hA hW hl
  have hx := S0.1; have hb := S0.2.1; have hml := S0.2.2.1; have hown := S0.2.2.2.1; have hts := S0.2.2.2.2
  have hl : lv_has ls 3 [(0, .ref h0), (1, .int (x)), (2, .int (y))] := hl
  refine lv_iload_n hx hb dX1_stackWord_0 rfl (lv_at hl 1 rfl) ?_
  refine lv_if_lt (tgt := 22) hx hb dX1_stackWord_1 (by decide) (fun h1 => ?_) (fun h1 => ?_)
  · skip
    refine lv_iconst (v := nI (0)) hx hb dX1_stackWord_22 (by decide) ?_
    exact eI hQ hx hb hr hlocks hK hW () (Or.inl ⟨rfl, Or.inl h1⟩) (rfl) dX1_stackWord_23
  · skip
    refine lv_iload_n hx hb dX1_stackWord_4 rfl (lv_at hl 1 rfl) ?_
    refine lv_aload_n hx hb dX1_stackWord_5 rfl (lv_at hl 0 rfl) ?_
    refine va_get (D := D) (ci := 1) (v := .int (nI (dp))) (C := RX1) (T := TX1) (N := 13) hx hb hts i_X1_stackWord_X1 hown hK hW.1 0 rfl rfl 10 (by decide) (hts (.fieldLink RX1 58 "TreeHashes$Hasher" "depth" "I") f_X1_stackWord_0) (fun _ h9 => h9) rfl dX1_stackWord_6 ?_
    refine lv_icmp_ge (tgt := 22) hx hb dX1_stackWord_9 (by decide) (fun h9 => ?_) (fun h9 => ?_)
    · skip
      refine lv_iconst (v := nI (0)) hx hb dX1_stackWord_22 (by decide) ?_
      exact eI hQ hx hb hr hlocks hK hW () (Or.inl ⟨rfl, Or.inr (Or.inl h9)⟩) (rfl) dX1_stackWord_23
    · skip
      obtain ⟨a, ha2, ea⟩ := ix_lt h1 h9 (by omega)
      subst ea
      refine lv_iload_n hx hb dX1_stackWord_12 rfl (lv_at hl 2 rfl) ?_
      refine lv_if_lt (tgt := 22) hx hb dX1_stackWord_13 (by decide) (fun h13 => ?_) (fun h13 => ?_)
      · skip
        refine lv_iconst (v := nI (0)) hx hb dX1_stackWord_22 (by decide) ?_
        exact eI hQ hx hb hr hlocks hK hW () (Or.inl ⟨rfl, Or.inr (Or.inr (Or.inl h13))⟩) (rfl) dX1_stackWord_23
      · skip
        refine lv_iload_n hx hb dX1_stackWord_16 rfl (lv_at hl 2 rfl) ?_
        refine lv_bipush (v := nI (8)) hx hb dX1_stackWord_17 (by decide) ?_
        refine lv_icmp_lt (tgt := 24) hx hb dX1_stackWord_19 (by decide) (fun h19 => ?_) (fun h19 => ?_)
        · skip
          obtain ⟨b, hb2, eb⟩ := ix_lt h13 (Int32.not_le.mpr h19) (by omega)
          subst eb
          refine lv_aload_n hx hb dX1_stackWord_24 rfl (lv_at hl 0 rfl) ?_
          refine va_get (D := D) (ci := 1) (v := .ref qs) (C := RX1) (T := TX1) (N := 13) hx hb hts i_X1_stackWord_X1 hown hK hW.1 0 rfl rfl 2 (by decide) (hts (.fieldLink RX1 22 "TreeHashes$Hasher" "stack" "[I") f_X1_stackWord_2) (fun _ h9 => h9) rfl dX1_stackWord_25 ?_
          refine lv_iload_n hx hb dX1_stackWord_28 rfl (lv_at hl 1 rfl) ?_
          refine lv_bipush (v := nI (8)) hx hb dX1_stackWord_29 (by decide) ?_
          refine lv_imul hx hb dX1_stackWord_31 ?_
          refine tI (pk_mul _ _) ?_
          refine lv_iload_n hx hb dX1_stackWord_32 rfl (lv_at hl 2 rfl) ?_
          refine lv_iadd hx hb dX1_stackWord_33 ?_
          refine tI (nI_add _ _) ?_
          refine rI hx hb hK hW 1 rfl (k := (a * 8) + b) (by omega) (by omega) dX1_stackWord_34 ?_
          exact eI hQ hx hb hr hlocks hK hW () (Or.inr ⟨a, b, ha2, hb2, rfl, rfl, rfl⟩) (rfl) dX1_stackWord_35
        · skip
          refine lv_iconst (v := nI (0)) hx hb dX1_stackWord_22 (by decide) ?_
          exact eI hQ hx hb hr hlocks hK hW () (Or.inl ⟨rfl, Or.inr (Or.inr (Or.inr (Int32.not_lt.mp h19)))⟩) (rfl) dX1_stackWord_23

theorem f_X1_prepareBlock_0 : Cond.fieldLink RX1 64 "TreeHashes$Hasher" "blocks" "I" ∈ wsX1_prepareBlock := by decide +kernel
theorem i_X1_prepareBlock_X1 : ∀ w ∈ wsX10, w ∈ wsX1_prepareBlock := by decide +kernel
theorem f_X1_prepareBlock_2 : Cond.fieldLink RX1 14 "TreeHashes$Hasher" "mix" "LTreeHashes$Mix;" ∈ wsX1_prepareBlock := by decide +kernel
theorem f_X1_prepareBlock_3 : Cond.fieldLink RX1 25 "TreeHashes$Hasher" "chunkChain" "[I" ∈ wsX1_prepareBlock := by decide +kernel
theorem f_X1_prepareBlock_4 : Cond.fieldLink RX1 28 "TreeHashes$Hasher" "block" "[I" ∈ wsX1_prepareBlock := by decide +kernel
theorem f_X1_prepareBlock_5 : Cond.fieldLink RX1 49 "TreeHashes$Hasher" "firstChunk" "I" ∈ wsX1_prepareBlock := by decide +kernel
theorem f_X1_prepareBlock_6 : Cond.fieldLink RX1 55 "TreeHashes$Hasher" "closed" "I" ∈ wsX1_prepareBlock := by decide +kernel
theorem f_X1_prepareBlock_7 : Cond.fieldLink RX1 67 "TreeHashes$Hasher" "inBlock" "I" ∈ wsX1_prepareBlock := by decide +kernel
theorem f_X1_prepareBlock_8 : Cond.fieldLink RX1 46 "TreeHashes$Hasher" "base" "I" ∈ wsX1_prepareBlock := by decide +kernel
set_option maxHeartbeats 4000000 in
set_option maxRecDepth 100000 in
theorem c_X1_prepareBlock (l : Launch) (D : va_G) (cy : Nat → ClassId) (t : Nat × Nat) (m0 : Nat) (mc : Nat) (mb : Nat) (mv : Nat) (aw : Nat) (an : Nat) (ct : Int64) (ln : Int32) (fl : Int32) (h0 : Nat) (qk : Nat) (qs : Nat) (qc : Nat) (qb : Nat) (md : Int32) (bs : Int32) (fc : Nat) (tk : Nat) (cl : Nat) (dp : Nat) (bk : Nat) (ib : Nat) (ch : Nat → Int32) (bl : Nat → Int32) (cf : Nat → Int32) (bf : Nat → Int32) (fg : Int32) (hfc : fc + cl < 2 ^ 31) (hbk0 : bk < 2 ^ 31) (sz : Nat) : Met l yX1_prepareBlock wsX1_prepareBlock ({ frames := 1, cells := 0, slots := 0, locals := 27 }) (PcW D cy t [(h0, .inr (1, [.ref m0, .ref qk, .ref qs, .ref qc, .ref qb, .int (md), .int (bs), .int (nI (fc)), .int (nI (tk)), .int (nI (cl)), .int (nI (dp)), .int (nI (bk)), .int (nI (ib))])), (qc, .inl (cy 0, 8, .inl (cf))), (qb, .inl (cy 0, 16, .inl (bf))), (m0, .inr (2, [.ref mc, .ref mb, .long (ct), .int (ln), .int (fl), .ref mv, .ref aw, .ref an])), (mc, .inl (cy 0, 8, .inl (ch))), (mb, .inl (cy 0, 16, .inl (bl)))] [.ref h0, .int (fg)] sz) (QvA D cy (fun u : Unit => True) (fun u : Unit => [(h0, .inr (1, [.ref m0, .ref qk, .ref qs, .ref qc, .ref qb, .int (md), .int (bs), .int (nI (fc)), .int (nI (tk)), .int (nI (cl)), .int (nI (dp)), .int (nI (bk)), .int (nI (ib))])), (qc, .inl (cy 0, 8, .inl (cf))), (qb, .inl (cy 0, 16, .inl (bf))), (m0, .inr (2, [.ref mc, .ref mb, .long (lN (fc + cl)), .int (nI (ib)), .int ((bs + (nI (fst0 bk))) + fg), .ref mv, .ref aw, .ref an])), (mc, .inl (cy 0, 8, .inl (cf))), (mb, .inl (cy 0, 16, .inl (bf)))]) (va_A [(h0, .inr (1, [.ref m0, .ref qk, .ref qs, .ref qc, .ref qb, .int (md), .int (bs), .int (nI (fc)), .int (nI (tk)), .int (nI (cl)), .int (nI (dp)), .int (nI (bk)), .int (nI (ib))])), (qc, .inl (cy 0, 8, .inl (cf))), (qb, .inl (cy 0, 16, .inl (bf))), (m0, .inr (2, [.ref mc, .ref mb, .long (ct), .int (ln), .int (fl), .ref mv, .ref aw, .ref an])), (mc, .inl (cy 0, 8, .inl (ch))), (mb, .inl (cy 0, 16, .inl (bl)))] sz)) 0 0 (va_A [(h0, .inr (1, [.ref m0, .ref qk, .ref qs, .ref qc, .ref qb, .int (md), .int (bs), .int (nI (fc)), .int (nI (tk)), .int (nI (cl)), .int (nI (dp)), .int (nI (bk)), .int (nI (ib))])), (qc, .inl (cy 0, 8, .inl (cf))), (qb, .inl (cy 0, 16, .inl (bf))), (m0, .inr (2, [.ref mc, .ref mb, .long (ct), .int (ln), .int (fl), .ref mv, .ref aw, .ref an])), (mc, .inl (cy 0, 8, .inl (ch))), (mb, .inl (cy 0, 16, .inl (bl)))] sz) := by
  refine M_ofW (cc := cX1_prepareBlock) (maxL := 3) (ret := none) (by decide) rfl (Nat.le_of_ble_eq_true rfl) ?_
  intro p e s m below meth c A ls args Q hQ S0 hr hlocks hnm hK hst hA hW hl
  have hx := S0.1; have hb := S0.2.1; have hml := S0.2.2.1; have hown := S0.2.2.2.1; have hts := S0.2.2.2.2
  have hl : lv_has ls 3 [(0, .ref h0), (1, .int (fg))] := hl
  refine lv_aload_n hx hb dX1_prepareBlock_0 rfl (lv_at hl 0 rfl) ?_
  refine va_get (D := D) (ci := 1) (v := .int (nI (bk))) (C := RX1) (T := TX1) (N := 13) hx hb hts i_X1_prepareBlock_X1 hown hK hW.1 0 rfl rfl 11 (by decide) (hts (.fieldLink RX1 64 "TreeHashes$Hasher" "blocks" "I") f_X1_prepareBlock_0) (fun _ h9 => h9) rfl dX1_prepareBlock_1 ?_
  refine zNe (a := bk) (tgt := 11) hx hb dX1_prepareBlock_4 (by decide) (hbk0) (fun h4 => ?_) (fun h4 => ?_)
  · skip
    refine lv_iconst (v := nI (0)) hx hb dX1_prepareBlock_11 (by decide) ?_
    refine tI (x' := nI (fst0 bk)) (fst0_1 h4) ?_
    refine lv_istore_n (lv' := [(2, .int (nI (fst0 bk))), (0, .ref h0), (1, .int (fg))]) hx hb dX1_prepareBlock_12 rfl hl (by decide) rfl (fun ls hl => ?_)
    refine lv_aload_n hx hb dX1_prepareBlock_13 rfl (lv_at hl 1 rfl) ?_
    refine va_get (D := D) (ci := 1) (v := .ref m0) (C := RX1) (T := TX1) (N := 13) hx hb hts i_X1_prepareBlock_X1 hown hK hW.1 0 rfl rfl 0 (by decide) (hts (.fieldLink RX1 14 "TreeHashes$Hasher" "mix" "LTreeHashes$Mix;") f_X1_prepareBlock_2) (fun _ h9 => h9) rfl dX1_prepareBlock_14 ?_
    refine lv_aload_n hx hb dX1_prepareBlock_17 rfl (lv_at hl 1 rfl) ?_
    refine va_get (D := D) (ci := 1) (v := .ref qc) (C := RX1) (T := TX1) (N := 13) hx hb hts i_X1_prepareBlock_X1 hown hK hW.1 0 rfl rfl 3 (by decide) (hts (.fieldLink RX1 25 "TreeHashes$Hasher" "chunkChain" "[I") f_X1_prepareBlock_3) (fun _ h9 => h9) rfl dX1_prepareBlock_18 ?_
    refine lv_aload_n hx hb dX1_prepareBlock_21 rfl (lv_at hl 1 rfl) ?_
    refine va_get (D := D) (ci := 1) (v := .ref qb) (C := RX1) (T := TX1) (N := 13) hx hb hts i_X1_prepareBlock_X1 hown hK hW.1 0 rfl rfl 4 (by decide) (hts (.fieldLink RX1 28 "TreeHashes$Hasher" "block" "[I") f_X1_prepareBlock_4) (fun _ h9 => h9) rfl dX1_prepareBlock_22 ?_
    refine lv_aload_n hx hb dX1_prepareBlock_25 rfl (lv_at hl 1 rfl) ?_
    refine va_get (D := D) (ci := 1) (v := .int (nI (fc))) (C := RX1) (T := TX1) (N := 13) hx hb hts i_X1_prepareBlock_X1 hown hK hW.1 0 rfl rfl 7 (by decide) (hts (.fieldLink RX1 49 "TreeHashes$Hasher" "firstChunk" "I") f_X1_prepareBlock_5) (fun _ h9 => h9) rfl dX1_prepareBlock_26 ?_
    refine lv_aload_n hx hb dX1_prepareBlock_29 rfl (lv_at hl 1 rfl) ?_
    refine va_get (D := D) (ci := 1) (v := .int (nI (cl))) (C := RX1) (T := TX1) (N := 13) hx hb hts i_X1_prepareBlock_X1 hown hK hW.1 0 rfl rfl 9 (by decide) (hts (.fieldLink RX1 55 "TreeHashes$Hasher" "closed" "I") f_X1_prepareBlock_6) (fun _ h9 => h9) rfl dX1_prepareBlock_30 ?_
    refine lv_iadd hx hb dX1_prepareBlock_33 ?_
    refine tI (nI_add _ _) ?_
    refine lv_i2l hx hb dX1_prepareBlock_34 rfl ?_
    refine tL (x' := lN (fc + cl)) (nI_l (by omega)) ?_
    refine lv_aload_n hx hb dX1_prepareBlock_35 rfl (lv_at hl 1 rfl) ?_
    refine va_get (D := D) (ci := 1) (v := .int (nI (ib))) (C := RX1) (T := TX1) (N := 13) hx hb hts i_X1_prepareBlock_X1 hown hK hW.1 0 rfl rfl 12 (by decide) (hts (.fieldLink RX1 67 "TreeHashes$Hasher" "inBlock" "I") f_X1_prepareBlock_7) (fun _ h9 => h9) rfl dX1_prepareBlock_36 ?_
    refine lv_aload_n hx hb dX1_prepareBlock_39 rfl (lv_at hl 1 rfl) ?_
    refine va_get (D := D) (ci := 1) (v := .int (bs)) (C := RX1) (T := TX1) (N := 13) hx hb hts i_X1_prepareBlock_X1 hown hK hW.1 0 rfl rfl 6 (by decide) (hts (.fieldLink RX1 46 "TreeHashes$Hasher" "base" "I") f_X1_prepareBlock_8) (fun _ h9 => h9) rfl dX1_prepareBlock_40 ?_
    refine lv_iload_n hx hb dX1_prepareBlock_43 rfl (lv_at hl 0 rfl) ?_
    refine lv_iadd hx hb dX1_prepareBlock_44 ?_
    refine lv_iload_n hx hb dX1_prepareBlock_45 rfl (lv_at hl 2 rfl) ?_
    refine lv_iadd hx hb dX1_prepareBlock_46 ?_
    refine kVv (As := [.ref qc, .ref qb, .long (lN (fc + cl)), .int (nI (ib)), .int ((bs + (nI (fst0 bk))) + fg)]) (rest := []) S0 hK hst hA hW [3, 4, 5, 1, 2] (fun sz => c_X2_prepare l D cy t m0 mc mb mv aw an ct ln fl ch bl qc qb cf bf (lN (fc + cl)) (nI (ib)) ((bs + (nI (fst0 bk))) + fg)  sz) rfl (by decide) (cwV 5 hts gX1_prepareBlock_X2_prepare rfl rfl rfl (by decide +kernel) ⟨Nat.le_of_ble_eq_true rfl, Nat.le_of_ble_eq_true rfl⟩) (fun _ => rfl) 0 2 rfl rfl rfl hl.1 rfl (Nat.le_of_ble_eq_true rfl) dX1_prepareBlock_47 ⟨Nat.le_of_ble_eq_true rfl, Nat.le_of_ble_eq_true rfl⟩ (fun u47 H locs p47 hW => ?_)
    have hW : Wd D A s [(h0, .inr (1, [.ref m0, .ref qk, .ref qs, .ref qc, .ref qb, .int (md), .int (bs), .int (nI (fc)), .int (nI (tk)), .int (nI (cl)), .int (nI (dp)), .int (nI (bk)), .int (nI (ib))])), (qc, .inl (cy 0, 8, .inl (cf))), (qb, .inl (cy 0, 16, .inl (bf))), (m0, .inr (2, [.ref mc, .ref mb, .long ((lN (fc + cl))), .int ((nI (ib))), .int (((bs + (nI (fst0 bk))) + fg)), .ref mv, .ref aw, .ref an])), (mc, .inl (cy 0, 8, .inl (cf))), (mb, .inl (cy 0, 16, .inl (bf)))] H locs := hW
    exact eV hQ hx hb hr hlocks hK hW () (trivial) (rfl) dX1_prepareBlock_50
  · skip
    refine lv_iconst (v := nI (1)) hx hb dX1_prepareBlock_7 (by decide) ?_
    refine tI (x' := nI (fst0 bk)) (fst0_0 h4) ?_
    refine lv_goto (tgt := 12) hx hb dX1_prepareBlock_8 (by decide) ?_
    refine lv_istore_n (lv' := [(2, .int (nI (fst0 bk))), (0, .ref h0), (1, .int (fg))]) hx hb dX1_prepareBlock_12 rfl hl (by decide) rfl (fun ls hl => ?_)
    refine lv_aload_n hx hb dX1_prepareBlock_13 rfl (lv_at hl 1 rfl) ?_
    refine va_get (D := D) (ci := 1) (v := .ref m0) (C := RX1) (T := TX1) (N := 13) hx hb hts i_X1_prepareBlock_X1 hown hK hW.1 0 rfl rfl 0 (by decide) (hts (.fieldLink RX1 14 "TreeHashes$Hasher" "mix" "LTreeHashes$Mix;") f_X1_prepareBlock_2) (fun _ h9 => h9) rfl dX1_prepareBlock_14 ?_
    refine lv_aload_n hx hb dX1_prepareBlock_17 rfl (lv_at hl 1 rfl) ?_
    refine va_get (D := D) (ci := 1) (v := .ref qc) (C := RX1) (T := TX1) (N := 13) hx hb hts i_X1_prepareBlock_X1 hown hK hW.1 0 rfl rfl 3 (by decide) (hts (.fieldLink RX1 25 "TreeHashes$Hasher" "chunkChain" "[I") f_X1_prepareBlock_3) (fun _ h9 => h9) rfl dX1_prepareBlock_18 ?_
    refine lv_aload_n hx hb dX1_prepareBlock_21 rfl (lv_at hl 1 rfl) ?_
    refine va_get (D := D) (ci := 1) (v := .ref qb) (C := RX1) (T := TX1) (N := 13) hx hb hts i_X1_prepareBlock_X1 hown hK hW.1 0 rfl rfl 4 (by decide) (hts (.fieldLink RX1 28 "TreeHashes$Hasher" "block" "[I") f_X1_prepareBlock_4) (fun _ h9 => h9) rfl dX1_prepareBlock_22 ?_
    refine lv_aload_n hx hb dX1_prepareBlock_25 rfl (lv_at hl 1 rfl) ?_
    refine va_get (D := D) (ci := 1) (v := .int (nI (fc))) (C := RX1) (T := TX1) (N := 13) hx hb hts i_X1_prepareBlock_X1 hown hK hW.1 0 rfl rfl 7 (by decide) (hts (.fieldLink RX1 49 "TreeHashes$Hasher" "firstChunk" "I") f_X1_prepareBlock_5) (fun _ h9 => h9) rfl dX1_prepareBlock_26 ?_
    refine lv_aload_n hx hb dX1_prepareBlock_29 rfl (lv_at hl 1 rfl) ?_
    refine va_get (D := D) (ci := 1) (v := .int (nI (cl))) (C := RX1) (T := TX1) (N := 13) hx hb hts i_X1_prepareBlock_X1 hown hK hW.1 0 rfl rfl 9 (by decide) (hts (.fieldLink RX1 55 "TreeHashes$Hasher" "closed" "I") f_X1_prepareBlock_6) (fun _ h9 => h9) rfl dX1_prepareBlock_30 ?_
    refine lv_iadd hx hb dX1_prepareBlock_33 ?_
    refine tI (nI_add _ _) ?_
    refine lv_i2l hx hb dX1_prepareBlock_34 rfl ?_
    refine tL (x' := lN (fc + cl)) (nI_l (by omega)) ?_
    refine lv_aload_n hx hb dX1_prepareBlock_35 rfl (lv_at hl 1 rfl) ?_
    refine va_get (D := D) (ci := 1) (v := .int (nI (ib))) (C := RX1) (T := TX1) (N := 13) hx hb hts i_X1_prepareBlock_X1 hown hK hW.1 0 rfl rfl 12 (by decide) (hts (.fieldLink RX1 67 "TreeHashes$Hasher" "inBlock" "I") f_X1_prepareBlock_7) (fun _ h9 => h9) rfl dX1_prepareBlock_36 ?_
    refine lv_aload_n hx hb dX1_prepareBlock_39 rfl (lv_at hl 1 rfl) ?_
    refine va_get (D := D) (ci := 1) (v := .int (bs)) (C := RX1) (T := TX1) (N := 13) hx hb hts i_X1_prepareBlock_X1 hown hK hW.1 0 rfl rfl 6 (by decide) (hts (.fieldLink RX1 46 "TreeHashes$Hasher" "base" "I") f_X1_prepareBlock_8) (fun _ h9 => h9) rfl dX1_prepareBlock_40 ?_
    refine lv_iload_n hx hb dX1_prepareBlock_43 rfl (lv_at hl 0 rfl) ?_
    refine lv_iadd hx hb dX1_prepareBlock_44 ?_
    refine lv_iload_n hx hb dX1_prepareBlock_45 rfl (lv_at hl 2 rfl) ?_
    refine lv_iadd hx hb dX1_prepareBlock_46 ?_
    refine kVv (As := [.ref qc, .ref qb, .long (lN (fc + cl)), .int (nI (ib)), .int ((bs + (nI (fst0 bk))) + fg)]) (rest := []) S0 hK hst hA hW [3, 4, 5, 1, 2] (fun sz => c_X2_prepare l D cy t m0 mc mb mv aw an ct ln fl ch bl qc qb cf bf (lN (fc + cl)) (nI (ib)) ((bs + (nI (fst0 bk))) + fg)  sz) rfl (by decide) (cwV 5 hts gX1_prepareBlock_X2_prepare rfl rfl rfl (by decide +kernel) ⟨Nat.le_of_ble_eq_true rfl, Nat.le_of_ble_eq_true rfl⟩) (fun _ => rfl) 0 2 rfl rfl rfl hl.1 rfl (Nat.le_of_ble_eq_true rfl) dX1_prepareBlock_47 ⟨Nat.le_of_ble_eq_true rfl, Nat.le_of_ble_eq_true rfl⟩ (fun u47 H locs p47 hW => ?_)
    have hW : Wd D A s [(h0, .inr (1, [.ref m0, .ref qk, .ref qs, .ref qc, .ref qb, .int (md), .int (bs), .int (nI (fc)), .int (nI (tk)), .int (nI (cl)), .int (nI (dp)), .int (nI (bk)), .int (nI (ib))])), (qc, .inl (cy 0, 8, .inl (cf))), (qb, .inl (cy 0, 16, .inl (bf))), (m0, .inr (2, [.ref mc, .ref mb, .long ((lN (fc + cl))), .int ((nI (ib))), .int (((bs + (nI (fst0 bk))) + fg)), .ref mv, .ref aw, .ref an])), (mc, .inl (cy 0, 8, .inl (cf))), (mb, .inl (cy 0, 16, .inl (bf)))] H locs := hW
    exact eV hQ hx hb hr hlocks hK hW () (trivial) (rfl) dX1_prepareBlock_50

theorem f_X1_closeBlock_0 : Cond.fieldLink RX1 14 "TreeHashes$Hasher" "mix" "LTreeHashes$Mix;" ∈ wsX1_closeBlock := by decide +kernel
theorem i_X1_closeBlock_X1 : ∀ w ∈ wsX10, w ∈ wsX1_closeBlock := by decide +kernel
theorem f_X1_closeBlock_2 : Cond.fieldLink RX1 25 "TreeHashes$Hasher" "chunkChain" "[I" ∈ wsX1_closeBlock := by decide +kernel
theorem f_X1_closeBlock_3 : Cond.fieldLink RX1 64 "TreeHashes$Hasher" "blocks" "I" ∈ wsX1_closeBlock := by decide +kernel
set_option maxHeartbeats 4000000 in
set_option maxRecDepth 100000 in
theorem c_X1_closeBlock (l : Launch) (D : va_G) (cy : Nat → ClassId) (t : Nat × Nat) (m0 : Nat) (mc : Nat) (mb : Nat) (mv : Nat) (aw : Nat) (an : Nat) (ct : Int64) (ln : Int32) (fl : Int32) (h0 : Nat) (qk : Nat) (qs : Nat) (qc : Nat) (qb : Nat) (md : Int32) (bs : Int32) (fc : Nat) (tk : Nat) (cl : Nat) (dp : Nat) (bk : Nat) (ib : Nat) (ch : Nat → Int32) (bl : Nat → Int32) (v : Nat → Int32) (w : Nat → Int32) (nw : Nat → Int32) (cf : Nat → Int32) (bf : Nat → Int32) (hfc : fc + cl < 2 ^ 31) (hb1 : bk < 2 ^ 31) (sz : Nat) : Met l yX1_closeBlock wsX1_closeBlock ({ frames := 2, cells := 0, slots := 0, locals := 51 }) (PcW D cy t [(h0, .inr (1, [.ref m0, .ref qk, .ref qs, .ref qc, .ref qb, .int (md), .int (bs), .int (nI (fc)), .int (nI (tk)), .int (nI (cl)), .int (nI (dp)), .int (nI (bk)), .int (nI (ib))])), (qc, .inl (cy 0, 8, .inl (cf))), (qb, .inl (cy 0, 16, .inl (bf))), (m0, .inr (2, [.ref mc, .ref mb, .long (ct), .int (ln), .int (fl), .ref mv, .ref aw, .ref an])), (mc, .inl (cy 0, 8, .inl (ch))), (mb, .inl (cy 0, 16, .inl (bl))), (mv, .inl (cy 0, 16, .inl (v))), (aw, .inl (cy 0, 16, .inl (w))), (an, .inl (cy 0, 16, .inl (nw)))] [.ref h0] sz) (QvA D cy (fun u : (Nat) × (Nat) × (Nat → Int32) × (Nat → Int32) => match u with | (aw2, an2, w2, nw2) => True) (fun u : (Nat) × (Nat) × (Nat → Int32) × (Nat → Int32) => match u with | (aw2, an2, w2, nw2) => [(h0, .inr (1, [.ref m0, .ref qk, .ref qs, .ref qc, .ref qb, .int (md), .int (bs), .int (nI (fc)), .int (nI (tk)), .int (nI (cl)), .int (nI (dp)), .int (nI (bk + 1)), .int (nI (0))])), (qc, .inl (cy 0, 8, .inl (mixV cf bf (lN (fc + cl)) (nI (ib)) ((bs + (nI (fst0 bk))) + (nI (0)))))), (qb, .inl (cy 0, 16, .inl ((fun _ => nI (0))))), (m0, .inr (2, [.ref mc, .ref mb, .long (lN (fc + cl)), .int (nI (ib)), .int ((bs + (nI (fst0 bk))) + (nI (0))), .ref mv, .ref aw2, .ref an2])), (mc, .inl (cy 0, 8, .inl (cf))), (mb, .inl (cy 0, 16, .inl (bf))), (mv, .inl (cy 0, 16, .inl (mixV cf bf (lN (fc + cl)) (nI (ib)) ((bs + (nI (fst0 bk))) + (nI (0)))))), (aw2, .inl (cy 0, 16, .inl (w2))), (an2, .inl (cy 0, 16, .inl (nw2)))]) (va_A [(h0, .inr (1, [.ref m0, .ref qk, .ref qs, .ref qc, .ref qb, .int (md), .int (bs), .int (nI (fc)), .int (nI (tk)), .int (nI (cl)), .int (nI (dp)), .int (nI (bk)), .int (nI (ib))])), (qc, .inl (cy 0, 8, .inl (cf))), (qb, .inl (cy 0, 16, .inl (bf))), (m0, .inr (2, [.ref mc, .ref mb, .long (ct), .int (ln), .int (fl), .ref mv, .ref aw, .ref an])), (mc, .inl (cy 0, 8, .inl (ch))), (mb, .inl (cy 0, 16, .inl (bl))), (mv, .inl (cy 0, 16, .inl (v))), (aw, .inl (cy 0, 16, .inl (w))), (an, .inl (cy 0, 16, .inl (nw)))] sz)) 0 0 (va_A [(h0, .inr (1, [.ref m0, .ref qk, .ref qs, .ref qc, .ref qb, .int (md), .int (bs), .int (nI (fc)), .int (nI (tk)), .int (nI (cl)), .int (nI (dp)), .int (nI (bk)), .int (nI (ib))])), (qc, .inl (cy 0, 8, .inl (cf))), (qb, .inl (cy 0, 16, .inl (bf))), (m0, .inr (2, [.ref mc, .ref mb, .long (ct), .int (ln), .int (fl), .ref mv, .ref aw, .ref an])), (mc, .inl (cy 0, 8, .inl (ch))), (mb, .inl (cy 0, 16, .inl (bl))), (mv, .inl (cy 0, 16, .inl (v))), (aw, .inl (cy 0, 16, .inl (w))), (an, .inl (cy 0, 16, .inl (nw)))] sz) := by
  refine M_ofW (cc := cX1_closeBlock) (maxL := 1) (ret := none) (by decide) rfl (Nat.le_of_ble_eq_true rfl) ?_
  intro p e s m below meth c A ls args Q hQ S0 hr hlocks hnm hK hst hA hW hl
  have hx := S0.1; have hb := S0.2.1; have hml := S0.2.2.1; have hown := S0.2.2.2.1; have hts := S0.2.2.2.2
  have hl : lv_has ls 1 [(0, .ref h0)] := hl
  refine lv_aload_n hx hb dX1_closeBlock_0 rfl (lv_at hl 0 rfl) ?_
  refine lv_iconst (v := nI (0)) hx hb dX1_closeBlock_1 (by decide) ?_
  refine kVv (As := [.int (nI (0))]) (rest := []) S0 hK hst hA hW [0, 1, 2, 3, 4, 5] (fun sz => c_X1_prepareBlock l D cy t m0 mc mb mv aw an ct ln fl h0 qk qs qc qb md bs fc tk cl dp bk ib ch bl cf bf (nI (0)) (by omega) (by omega) sz) rfl (by decide) (cwV 1 hts gX1_closeBlock_X1_prepareBlock rfl rfl rfl (by decide +kernel) ⟨Nat.le_of_ble_eq_true rfl, Nat.le_of_ble_eq_true rfl⟩) (fun _ => rfl) 0 1 rfl rfl rfl hl.1 rfl (Nat.le_of_ble_eq_true rfl) dX1_closeBlock_2 ⟨Nat.le_of_ble_eq_true rfl, Nat.le_of_ble_eq_true rfl⟩ (fun u2 H locs p2 hW => ?_)
  have hW : Wd D A s [(h0, .inr (1, [.ref m0, .ref qk, .ref qs, .ref qc, .ref qb, .int (md), .int (bs), .int (nI (fc)), .int (nI (tk)), .int (nI (cl)), .int (nI (dp)), .int (nI (bk)), .int (nI (ib))])), (qc, .inl (cy 0, 8, .inl (cf))), (qb, .inl (cy 0, 16, .inl (bf))), (m0, .inr (2, [.ref mc, .ref mb, .long (lN (fc + cl)), .int (nI (ib)), .int ((bs + (nI (fst0 bk))) + (nI (0))), .ref mv, .ref aw, .ref an])), (mc, .inl (cy 0, 8, .inl (cf))), (mb, .inl (cy 0, 16, .inl (bf))), (mv, .inl (cy 0, 16, .inl (v))), (aw, .inl (cy 0, 16, .inl (w))), (an, .inl (cy 0, 16, .inl (nw)))] H locs := hW
  refine lv_aload_n hx hb dX1_closeBlock_5 rfl (lv_at hl 0 rfl) ?_
  refine va_get (D := D) (ci := 1) (v := .ref m0) (C := RX1) (T := TX1) (N := 13) hx hb hts i_X1_closeBlock_X1 hown hK hW.1 0 rfl rfl 0 (by decide) (hts (.fieldLink RX1 14 "TreeHashes$Hasher" "mix" "LTreeHashes$Mix;") f_X1_closeBlock_0) (fun _ h9 => h9) rfl dX1_closeBlock_6 ?_
  refine kVv (As := []) (rest := []) S0 hK hst hA hW [3, 4, 5, 6, 7, 8] (fun sz => c_X2_run l D cy t m0 mc mb mv aw an (lN (fc + cl)) (nI (ib)) ((bs + (nI (fst0 bk))) + (nI (0))) cf bf v w nw  sz) rfl (by decide) (cwV 0 hts gX1_closeBlock_X2_run rfl rfl rfl (by decide +kernel) ⟨Nat.le_of_ble_eq_true rfl, Nat.le_of_ble_eq_true rfl⟩) (fun ⟨_, _, _, _⟩ => rfl) 0 2 rfl rfl rfl hl.1 rfl (Nat.le_of_ble_eq_true rfl) dX1_closeBlock_9 ⟨Nat.le_of_ble_eq_true rfl, Nat.le_of_ble_eq_true rfl⟩ (fun u9 H locs p9 hW => ?_)
  obtain ⟨aw2_9, an2_9, w2_9, nw2_9⟩ := u9
  have hW : Wd D A s [(h0, .inr (1, [.ref m0, .ref qk, .ref qs, .ref qc, .ref qb, .int (md), .int (bs), .int (nI (fc)), .int (nI (tk)), .int (nI (cl)), .int (nI (dp)), .int (nI (bk)), .int (nI (ib))])), (qc, .inl (cy 0, 8, .inl (cf))), (qb, .inl (cy 0, 16, .inl (bf))), (m0, .inr (2, [.ref mc, .ref mb, .long ((lN (fc + cl))), .int ((nI (ib))), .int (((bs + (nI (fst0 bk))) + (nI (0)))), .ref mv, .ref aw2_9, .ref an2_9])), (mc, .inl (cy 0, 8, .inl (cf))), (mb, .inl (cy 0, 16, .inl (bf))), (mv, .inl (cy 0, 16, .inl (mixV cf bf (lN (fc + cl)) (nI (ib)) ((bs + (nI (fst0 bk))) + (nI (0)))))), (aw2_9, .inl (cy 0, 16, .inl (w2_9))), (an2_9, .inl (cy 0, 16, .inl (nw2_9)))] H locs := hW
  refine lv_aload_n hx hb dX1_closeBlock_12 rfl (lv_at hl 0 rfl) ?_
  refine va_get (D := D) (ci := 1) (v := .ref m0) (C := RX1) (T := TX1) (N := 13) hx hb hts i_X1_closeBlock_X1 hown hK hW.1 0 rfl rfl 0 (by decide) (hts (.fieldLink RX1 14 "TreeHashes$Hasher" "mix" "LTreeHashes$Mix;") f_X1_closeBlock_0) (fun _ h9 => h9) rfl dX1_closeBlock_13 ?_
  refine lv_aload_n hx hb dX1_closeBlock_16 rfl (lv_at hl 0 rfl) ?_
  refine va_get (D := D) (ci := 1) (v := .ref qc) (C := RX1) (T := TX1) (N := 13) hx hb hts i_X1_closeBlock_X1 hown hK hW.1 0 rfl rfl 3 (by decide) (hts (.fieldLink RX1 25 "TreeHashes$Hasher" "chunkChain" "[I") f_X1_closeBlock_2) (fun _ h9 => h9) rfl dX1_closeBlock_17 ?_
  refine lv_iconst (v := nI (0)) hx hb dX1_closeBlock_20 (by decide) ?_
  refine kVv (As := [.ref qc, .int (nI (0))]) (rest := []) S0 hK hst hA hW [3, 6, 1] (fun sz => c_X2_writeChain l D cy t m0 mc mb mv aw2_9 an2_9 ((lN (fc + cl))) ((nI (ib))) (((bs + (nI (fst0 bk))) + (nI (0)))) (mixV cf bf (lN (fc + cl)) (nI (ib)) ((bs + (nI (fst0 bk))) + (nI (0)))) qc 8 cf 0 (by omega) (by omega) sz) rfl (by decide) (cwV 2 hts gX1_closeBlock_X2_writeChain rfl rfl rfl (by decide +kernel) ⟨Nat.le_of_ble_eq_true rfl, Nat.le_of_ble_eq_true rfl⟩) (fun _ => rfl) 0 2 rfl rfl rfl hl.1 rfl (Nat.le_of_ble_eq_true rfl) dX1_closeBlock_21 ⟨Nat.le_of_ble_eq_true rfl, Nat.le_of_ble_eq_true rfl⟩ (fun u21 H locs p21 hW => ?_)
  have hW : Wd D A s [(h0, .inr (1, [.ref m0, .ref qk, .ref qs, .ref qc, .ref qb, .int (md), .int (bs), .int (nI (fc)), .int (nI (tk)), .int (nI (cl)), .int (nI (dp)), .int (nI (bk)), .int (nI (ib))])), (qc, .inl (cy 0, 8, .inl (apG cf 0 (mixV cf bf (lN (fc + cl)) (nI (ib)) ((bs + (nI (fst0 bk))) + (nI (0)))) 8))), (qb, .inl (cy 0, 16, .inl (bf))), (m0, .inr (2, [.ref mc, .ref mb, .long (((lN (fc + cl)))), .int (((nI (ib)))), .int ((((bs + (nI (fst0 bk))) + (nI (0))))), .ref mv, .ref aw2_9, .ref an2_9])), (mc, .inl (cy 0, 8, .inl (cf))), (mb, .inl (cy 0, 16, .inl (bf))), (mv, .inl (cy 0, 16, .inl ((mixV cf bf (lN (fc + cl)) (nI (ib)) ((bs + (nI (fst0 bk))) + (nI (0))))))), (aw2_9, .inl (cy 0, 16, .inl (w2_9))), (an2_9, .inl (cy 0, 16, .inl (nw2_9)))] H locs := hW
  have hW := Wd.ext hW 1 rfl (mixV cf bf (lN (fc + cl)) (nI (ib)) ((bs + (nI (fst0 bk))) + (nI (0)))) (apG_all)
  have hW : Wd D A s [(h0, .inr (1, [.ref m0, .ref qk, .ref qs, .ref qc, .ref qb, .int (md), .int (bs), .int (nI (fc)), .int (nI (tk)), .int (nI (cl)), .int (nI (dp)), .int (nI (bk)), .int (nI (ib))])), (qc, .inl (cy 0, 8, .inl (mixV cf bf (lN (fc + cl)) (nI (ib)) ((bs + (nI (fst0 bk))) + (nI (0)))))), (qb, .inl (cy 0, 16, .inl (bf))), (m0, .inr (2, [.ref mc, .ref mb, .long (((lN (fc + cl)))), .int (((nI (ib)))), .int ((((bs + (nI (fst0 bk))) + (nI (0))))), .ref mv, .ref aw2_9, .ref an2_9])), (mc, .inl (cy 0, 8, .inl (cf))), (mb, .inl (cy 0, 16, .inl (bf))), (mv, .inl (cy 0, 16, .inl ((mixV cf bf (lN (fc + cl)) (nI (ib)) ((bs + (nI (fst0 bk))) + (nI (0))))))), (aw2_9, .inl (cy 0, 16, .inl (w2_9))), (an2_9, .inl (cy 0, 16, .inl (nw2_9)))] H locs := hW
  refine lv_aload_n hx hb dX1_closeBlock_24 rfl (lv_at hl 0 rfl) ?_
  refine lv_dup hx hb dX1_closeBlock_25 rfl ?_
  refine va_get (D := D) (ci := 1) (v := .int (nI (bk))) (C := RX1) (T := TX1) (N := 13) hx hb hts i_X1_closeBlock_X1 hown hK hW.1 0 rfl rfl 11 (by decide) (hts (.fieldLink RX1 64 "TreeHashes$Hasher" "blocks" "I") f_X1_closeBlock_3) (fun _ h9 => h9) rfl dX1_closeBlock_26 ?_
  refine lv_iconst (v := nI (1)) hx hb dX1_closeBlock_29 (by decide) ?_
  refine lv_iadd hx hb dX1_closeBlock_30 ?_
  refine tI (nI_add _ _) ?_
  refine va_put (D := D) (ci := 1) (v := .int (nI (bk + 1))) (ty := .int) (C := RX1) (T := TX1) (N := 13) hx hb hts i_X1_closeBlock_X1 tyX1 tyX1_ok nmX1 hown hK hW.1 hW.2.1 hW.2.2 0 rfl rfl 11 (by decide) (hts (.fieldLink RX1 64 "TreeHashes$Hasher" "blocks" "I") f_X1_closeBlock_3) (fun _ h9 => h9) rfl (by decide +kernel) rfl rfl (Nat.le_of_ble_eq_true rfl) dX1_closeBlock_31 (fun H locs hP hD hS => ?_)
  have hW : Wd D A s [(h0, .inr (1, [.ref m0, .ref qk, .ref qs, .ref qc, .ref qb, .int (md), .int (bs), .int (nI (fc)), .int (nI (tk)), .int (nI (cl)), .int (nI (dp)), .int (nI (bk + 1)), .int (nI (ib))])), (qc, .inl (cy 0, 8, .inl (mixV cf bf (lN (fc + cl)) (nI (ib)) ((bs + (nI (fst0 bk))) + (nI (0)))))), (qb, .inl (cy 0, 16, .inl (bf))), (m0, .inr (2, [.ref mc, .ref mb, .long (((lN (fc + cl)))), .int (((nI (ib)))), .int ((((bs + (nI (fst0 bk))) + (nI (0))))), .ref mv, .ref aw2_9, .ref an2_9])), (mc, .inl (cy 0, 8, .inl (cf))), (mb, .inl (cy 0, 16, .inl (bf))), (mv, .inl (cy 0, 16, .inl ((mixV cf bf (lN (fc + cl)) (nI (ib)) ((bs + (nI (fst0 bk))) + (nI (0))))))), (aw2_9, .inl (cy 0, 16, .inl (w2_9))), (an2_9, .inl (cy 0, 16, .inl (nw2_9)))] H locs := ⟨hP, hD, hS⟩
  refine lv_aload_n hx hb dX1_closeBlock_34 rfl (lv_at hl 0 rfl) ?_
  refine kVv (As := []) (rest := []) S0 hK hst hA hW [0, 2] (fun sz => c_X1_startBlock l D cy t m0 h0 qk qs qc qb md bs fc tk cl dp (bk + 1) ib bf  sz) rfl (by decide) (cwV 0 hts gX1_closeBlock_X1_startBlock rfl rfl rfl (by decide +kernel) ⟨Nat.le_of_ble_eq_true rfl, Nat.le_of_ble_eq_true rfl⟩) (fun _ => rfl) 0 1 rfl rfl rfl hl.1 rfl (Nat.le_of_ble_eq_true rfl) dX1_closeBlock_35 ⟨Nat.le_of_ble_eq_true rfl, Nat.le_of_ble_eq_true rfl⟩ (fun u35 H locs p35 hW => ?_)
  have hW : Wd D A s [(h0, .inr (1, [.ref m0, .ref qk, .ref qs, .ref qc, .ref qb, .int (md), .int (bs), .int (nI (fc)), .int (nI (tk)), .int (nI (cl)), .int (nI (dp)), .int (nI ((bk + 1))), .int (nI (0))])), (qc, .inl (cy 0, 8, .inl (mixV cf bf (lN (fc + cl)) (nI (ib)) ((bs + (nI (fst0 bk))) + (nI (0)))))), (qb, .inl (cy 0, 16, .inl ((fun _ => nI (0))))), (m0, .inr (2, [.ref mc, .ref mb, .long (((lN (fc + cl)))), .int (((nI (ib)))), .int ((((bs + (nI (fst0 bk))) + (nI (0))))), .ref mv, .ref aw2_9, .ref an2_9])), (mc, .inl (cy 0, 8, .inl (cf))), (mb, .inl (cy 0, 16, .inl (bf))), (mv, .inl (cy 0, 16, .inl ((mixV cf bf (lN (fc + cl)) (nI (ib)) ((bs + (nI (fst0 bk))) + (nI (0))))))), (aw2_9, .inl (cy 0, 16, .inl (w2_9))), (an2_9, .inl (cy 0, 16, .inl (nw2_9)))] H locs := hW
  exact eV hQ hx hb hr hlocks hK hW (aw2_9, an2_9, w2_9, nw2_9) (trivial) (rfl) dX1_closeBlock_38

theorem f_X1_closeChunk_0 : Cond.fieldLink RX1 14 "TreeHashes$Hasher" "mix" "LTreeHashes$Mix;" ∈ wsX1_closeChunk := by decide +kernel
theorem i_X1_closeChunk_X1 : ∀ w ∈ wsX10, w ∈ wsX1_closeChunk := by decide +kernel
theorem f_X1_closeChunk_2 : Cond.fieldLink RX1 55 "TreeHashes$Hasher" "closed" "I" ∈ wsX1_closeChunk := by decide +kernel
theorem f_X1_closeChunk_3 : Cond.fieldLink RX1 58 "TreeHashes$Hasher" "depth" "I" ∈ wsX1_closeChunk := by decide +kernel
theorem f_X1_closeChunk_4 : Cond.fieldLink RX1 22 "TreeHashes$Hasher" "stack" "[I" ∈ wsX1_closeChunk := by decide +kernel
theorem f_X1_closeChunk_5 : Cond.fieldLink RX1 18 "TreeHashes$Hasher" "key" "[I" ∈ wsX1_closeChunk := by decide +kernel
theorem f_X1_closeChunk_6 : Cond.fieldLink RX1 46 "TreeHashes$Hasher" "base" "I" ∈ wsX1_closeChunk := by decide +kernel
set_option maxHeartbeats 4000000 in
set_option maxRecDepth 100000 in
theorem c_X1_closeChunk (l : Launch) (D : va_G) (cy : Nat → ClassId) (t : Nat × Nat) (m0 : Nat) (mc : Nat) (mb : Nat) (mv : Nat) (aw : Nat) (an : Nat) (ct : Int64) (ln : Int32) (fl : Int32) (h0 : Nat) (qk : Nat) (qs : Nat) (qc : Nat) (qb : Nat) (md : Int32) (bs : Int32) (fc : Nat) (tk : Nat) (cl : Nat) (dp : Nat) (bk : Nat) (ib : Nat) (ch : Nat → Int32) (bl : Nat → Int32) (v : Nat → Int32) (w : Nat → Int32) (nw : Nat → Int32) (kf : Nat → Int32) (sf : Nat → Int32) (cf : Nat → Int32) (bf : Nat → Int32) (SS : Nat → Nat → Int32) (hfc : fc + cl < 2 ^ 31) (hb1 : bk < 2 ^ 31) (h40 : cl + 1 < 40) (hd0 : dp = pcn cl) (hSk : SKr sf SS dp) (sz : Nat) : Met l yX1_closeChunk wsX1_closeChunk ({ frames := 2, cells := 0, slots := 0, locals := 52 }) (PcW D cy t [(h0, .inr (1, [.ref m0, .ref qk, .ref qs, .ref qc, .ref qb, .int (md), .int (bs), .int (nI (fc)), .int (nI (tk)), .int (nI (cl)), .int (nI (dp)), .int (nI (bk)), .int (nI (ib))])), (qk, .inl (cy 0, 8, .inl (kf))), (qs, .inl (cy 0, 40, .inl (sf))), (qc, .inl (cy 0, 8, .inl (cf))), (qb, .inl (cy 0, 16, .inl (bf))), (m0, .inr (2, [.ref mc, .ref mb, .long (ct), .int (ln), .int (fl), .ref mv, .ref aw, .ref an])), (mc, .inl (cy 0, 8, .inl (ch))), (mb, .inl (cy 0, 16, .inl (bl))), (mv, .inl (cy 0, 16, .inl (v))), (aw, .inl (cy 0, 16, .inl (w))), (an, .inl (cy 0, 16, .inl (nw)))] [.ref h0] sz) (QvA D cy (fun u : (Nat → Int32) × (Nat → Int32) × (Nat → Int32) × (Int64) × (Int32) × (Int32) × (Nat → Int32) × (Nat) × (Nat) × (Nat → Int32) × (Nat → Int32) => match u with | (sf2, ch2, bl2, ct2, ln2, fl2, v2, aw2, an2, w2, nw2) => (SKr sf2 (fun i => if i = (mg kf bs SS dp (cl + 1) (mixV cf bf (lN (fc + cl)) (nI (ib)) ((bs + (nI (fst0 bk))) + (nI (2))))).1 then (mg kf bs SS dp (cl + 1) (mixV cf bf (lN (fc + cl)) (nI (ib)) ((bs + (nI (fst0 bk))) + (nI (2))))).2 else SS i) ((mg kf bs SS dp (cl + 1) (mixV cf bf (lN (fc + cl)) (nI (ib)) ((bs + (nI (fst0 bk))) + (nI (2))))).1 + 1))) (fun u : (Nat → Int32) × (Nat → Int32) × (Nat → Int32) × (Int64) × (Int32) × (Int32) × (Nat → Int32) × (Nat) × (Nat) × (Nat → Int32) × (Nat → Int32) => match u with | (sf2, ch2, bl2, ct2, ln2, fl2, v2, aw2, an2, w2, nw2) => [(h0, .inr (1, [.ref m0, .ref qk, .ref qs, .ref qc, .ref qb, .int (md), .int (bs), .int (nI (fc)), .int (nI (tk)), .int (nI (cl + 1)), .int (nI ((mg kf bs SS dp (cl + 1) (mixV cf bf (lN (fc + cl)) (nI (ib)) ((bs + (nI (fst0 bk))) + (nI (2))))).1 + 1)), .int (nI (0)), .int (nI (0))])), (qk, .inl (cy 0, 8, .inl (kf))), (qs, .inl (cy 0, 40, .inl (sf2))), (qc, .inl (cy 0, 8, .inl (kf))), (qb, .inl (cy 0, 16, .inl ((fun _ => nI (0))))), (m0, .inr (2, [.ref mc, .ref mb, .long (ct2), .int (ln2), .int (fl2), .ref mv, .ref aw2, .ref an2])), (mc, .inl (cy 0, 8, .inl (ch2))), (mb, .inl (cy 0, 16, .inl (bl2))), (mv, .inl (cy 0, 16, .inl (v2))), (aw2, .inl (cy 0, 16, .inl (w2))), (an2, .inl (cy 0, 16, .inl (nw2)))]) (va_A [(h0, .inr (1, [.ref m0, .ref qk, .ref qs, .ref qc, .ref qb, .int (md), .int (bs), .int (nI (fc)), .int (nI (tk)), .int (nI (cl)), .int (nI (dp)), .int (nI (bk)), .int (nI (ib))])), (qk, .inl (cy 0, 8, .inl (kf))), (qs, .inl (cy 0, 40, .inl (sf))), (qc, .inl (cy 0, 8, .inl (cf))), (qb, .inl (cy 0, 16, .inl (bf))), (m0, .inr (2, [.ref mc, .ref mb, .long (ct), .int (ln), .int (fl), .ref mv, .ref aw, .ref an])), (mc, .inl (cy 0, 8, .inl (ch))), (mb, .inl (cy 0, 16, .inl (bl))), (mv, .inl (cy 0, 16, .inl (v))), (aw, .inl (cy 0, 16, .inl (w))), (an, .inl (cy 0, 16, .inl (nw)))] sz)) 0 0 (va_A [(h0, .inr (1, [.ref m0, .ref qk, .ref qs, .ref qc, .ref qb, .int (md), .int (bs), .int (nI (fc)), .int (nI (tk)), .int (nI (cl)), .int (nI (dp)), .int (nI (bk)), .int (nI (ib))])), (qk, .inl (cy 0, 8, .inl (kf))), (qs, .inl (cy 0, 40, .inl (sf))), (qc, .inl (cy 0, 8, .inl (cf))), (qb, .inl (cy 0, 16, .inl (bf))), (m0, .inr (2, [.ref mc, .ref mb, .long (ct), .int (ln), .int (fl), .ref mv, .ref aw, .ref an])), (mc, .inl (cy 0, 8, .inl (ch))), (mb, .inl (cy 0, 16, .inl (bl))), (mv, .inl (cy 0, 16, .inl (v))), (aw, .inl (cy 0, 16, .inl (w))), (an, .inl (cy 0, 16, .inl (nw)))] sz) := by
  refine M_ofW (cc := cX1_closeChunk) (maxL := 2) (ret := none) (by decide) rfl (Nat.le_of_ble_eq_true rfl) ?_
  intro p e s m below meth c A ls args Q hQ S0 hr hlocks hnm hK hst hA hW hl
  have hx := S0.1; have hb := S0.2.1; have hml := S0.2.2.1; have hown := S0.2.2.2.1; have hts := S0.2.2.2.2
  have hl : lv_has ls 2 [(0, .ref h0)] := hl
  have hp5 : dp ≤ 5 := by rw [hd0]; exact pcn_40 _ (by omega)
  refine lv_aload_n hx hb dX1_closeChunk_0 rfl (lv_at hl 0 rfl) ?_
  refine lv_iconst (v := nI (2)) hx hb dX1_closeChunk_1 (by decide) ?_
  refine kVv (As := [.int (nI (2))]) (rest := []) S0 hK hst hA hW [0, 3, 4, 5, 6, 7] (fun sz => c_X1_prepareBlock l D cy t m0 mc mb mv aw an ct ln fl h0 qk qs qc qb md bs fc tk cl dp bk ib ch bl cf bf (nI (2)) (by omega) (by omega) sz) rfl (by decide) (cwV 1 hts gX1_closeChunk_X1_prepareBlock rfl rfl rfl (by decide +kernel) ⟨Nat.le_of_ble_eq_true rfl, Nat.le_of_ble_eq_true rfl⟩) (fun _ => rfl) 0 1 rfl rfl rfl hl.1 rfl (Nat.le_of_ble_eq_true rfl) dX1_closeChunk_2 ⟨Nat.le_of_ble_eq_true rfl, Nat.le_of_ble_eq_true rfl⟩ (fun u2 H locs p2 hW => ?_)
  have hW : Wd D A s [(h0, .inr (1, [.ref m0, .ref qk, .ref qs, .ref qc, .ref qb, .int (md), .int (bs), .int (nI (fc)), .int (nI (tk)), .int (nI (cl)), .int (nI (dp)), .int (nI (bk)), .int (nI (ib))])), (qk, .inl (cy 0, 8, .inl (kf))), (qs, .inl (cy 0, 40, .inl (sf))), (qc, .inl (cy 0, 8, .inl (cf))), (qb, .inl (cy 0, 16, .inl (bf))), (m0, .inr (2, [.ref mc, .ref mb, .long (lN (fc + cl)), .int (nI (ib)), .int ((bs + (nI (fst0 bk))) + (nI (2))), .ref mv, .ref aw, .ref an])), (mc, .inl (cy 0, 8, .inl (cf))), (mb, .inl (cy 0, 16, .inl (bf))), (mv, .inl (cy 0, 16, .inl (v))), (aw, .inl (cy 0, 16, .inl (w))), (an, .inl (cy 0, 16, .inl (nw)))] H locs := hW
  refine lv_aload_n hx hb dX1_closeChunk_5 rfl (lv_at hl 0 rfl) ?_
  refine va_get (D := D) (ci := 1) (v := .ref m0) (C := RX1) (T := TX1) (N := 13) hx hb hts i_X1_closeChunk_X1 hown hK hW.1 0 rfl rfl 0 (by decide) (hts (.fieldLink RX1 14 "TreeHashes$Hasher" "mix" "LTreeHashes$Mix;") f_X1_closeChunk_0) (fun _ h9 => h9) rfl dX1_closeChunk_6 ?_
  refine kVv (As := []) (rest := []) S0 hK hst hA hW [5, 6, 7, 8, 9, 10] (fun sz => c_X2_run l D cy t m0 mc mb mv aw an (lN (fc + cl)) (nI (ib)) ((bs + (nI (fst0 bk))) + (nI (2))) cf bf v w nw  sz) rfl (by decide) (cwV 0 hts gX1_closeChunk_X2_run rfl rfl rfl (by decide +kernel) ⟨Nat.le_of_ble_eq_true rfl, Nat.le_of_ble_eq_true rfl⟩) (fun ⟨_, _, _, _⟩ => rfl) 0 2 rfl rfl rfl hl.1 rfl (Nat.le_of_ble_eq_true rfl) dX1_closeChunk_9 ⟨Nat.le_of_ble_eq_true rfl, Nat.le_of_ble_eq_true rfl⟩ (fun u9 H locs p9 hW => ?_)
  obtain ⟨aw2_9, an2_9, w2_9, nw2_9⟩ := u9
  have hW : Wd D A s [(h0, .inr (1, [.ref m0, .ref qk, .ref qs, .ref qc, .ref qb, .int (md), .int (bs), .int (nI (fc)), .int (nI (tk)), .int (nI (cl)), .int (nI (dp)), .int (nI (bk)), .int (nI (ib))])), (qk, .inl (cy 0, 8, .inl (kf))), (qs, .inl (cy 0, 40, .inl (sf))), (qc, .inl (cy 0, 8, .inl (cf))), (qb, .inl (cy 0, 16, .inl (bf))), (m0, .inr (2, [.ref mc, .ref mb, .long ((lN (fc + cl))), .int ((nI (ib))), .int (((bs + (nI (fst0 bk))) + (nI (2)))), .ref mv, .ref aw2_9, .ref an2_9])), (mc, .inl (cy 0, 8, .inl (cf))), (mb, .inl (cy 0, 16, .inl (bf))), (mv, .inl (cy 0, 16, .inl (mixV cf bf (lN (fc + cl)) (nI (ib)) ((bs + (nI (fst0 bk))) + (nI (2)))))), (aw2_9, .inl (cy 0, 16, .inl (w2_9))), (an2_9, .inl (cy 0, 16, .inl (nw2_9)))] H locs := hW
  refine lv_aload_n hx hb dX1_closeChunk_12 rfl (lv_at hl 0 rfl) ?_
  refine lv_dup hx hb dX1_closeChunk_13 rfl ?_
  refine va_get (D := D) (ci := 1) (v := .int (nI (cl))) (C := RX1) (T := TX1) (N := 13) hx hb hts i_X1_closeChunk_X1 hown hK hW.1 0 rfl rfl 9 (by decide) (hts (.fieldLink RX1 55 "TreeHashes$Hasher" "closed" "I") f_X1_closeChunk_2) (fun _ h9 => h9) rfl dX1_closeChunk_14 ?_
  refine lv_iconst (v := nI (1)) hx hb dX1_closeChunk_17 (by decide) ?_
  refine lv_iadd hx hb dX1_closeChunk_18 ?_
  refine tI (nI_add _ _) ?_
  refine va_put (D := D) (ci := 1) (v := .int (nI (cl + 1))) (ty := .int) (C := RX1) (T := TX1) (N := 13) hx hb hts i_X1_closeChunk_X1 tyX1 tyX1_ok nmX1 hown hK hW.1 hW.2.1 hW.2.2 0 rfl rfl 9 (by decide) (hts (.fieldLink RX1 55 "TreeHashes$Hasher" "closed" "I") f_X1_closeChunk_2) (fun _ h9 => h9) rfl (by decide +kernel) rfl rfl (Nat.le_of_ble_eq_true rfl) dX1_closeChunk_19 (fun H locs hP hD hS => ?_)
  have hW : Wd D A s [(h0, .inr (1, [.ref m0, .ref qk, .ref qs, .ref qc, .ref qb, .int (md), .int (bs), .int (nI (fc)), .int (nI (tk)), .int (nI (cl + 1)), .int (nI (dp)), .int (nI (bk)), .int (nI (ib))])), (qk, .inl (cy 0, 8, .inl (kf))), (qs, .inl (cy 0, 40, .inl (sf))), (qc, .inl (cy 0, 8, .inl (cf))), (qb, .inl (cy 0, 16, .inl (bf))), (m0, .inr (2, [.ref mc, .ref mb, .long ((lN (fc + cl))), .int ((nI (ib))), .int (((bs + (nI (fst0 bk))) + (nI (2)))), .ref mv, .ref aw2_9, .ref an2_9])), (mc, .inl (cy 0, 8, .inl (cf))), (mb, .inl (cy 0, 16, .inl (bf))), (mv, .inl (cy 0, 16, .inl (mixV cf bf (lN (fc + cl)) (nI (ib)) ((bs + (nI (fst0 bk))) + (nI (2)))))), (aw2_9, .inl (cy 0, 16, .inl (w2_9))), (an2_9, .inl (cy 0, 16, .inl (nw2_9)))] H locs := ⟨hP, hD, hS⟩
  refine lv_aload_n hx hb dX1_closeChunk_22 rfl (lv_at hl 0 rfl) ?_
  refine va_get (D := D) (ci := 1) (v := .int (nI (cl + 1))) (C := RX1) (T := TX1) (N := 13) hx hb hts i_X1_closeChunk_X1 hown hK hW.1 0 rfl rfl 9 (by decide) (hts (.fieldLink RX1 55 "TreeHashes$Hasher" "closed" "I") f_X1_closeChunk_2) (fun _ h9 => h9) rfl dX1_closeChunk_23 ?_
  refine lv_istore_n (lv' := [(1, .int (nI (cl + 1))), (0, .ref h0)]) hx hb dX1_closeChunk_26 rfl hl (by decide) rfl (fun ls hl => ?_)
  have loop27 : ∀ (nF : Nat) (d : Nat) (tr : Nat) (chx : Nat → Int32) (blx : Nat → Int32) (cx : Int64) (lx : Int32) (fx : Int32) (vx : Nat → Int32) (ax : Nat) (ay : Nat) (wx : Nat → Int32) (nx : Nat → Int32), tr < nF → (d = pcn (tr - 1)) → (0 < tr) → (tr ≤ cl + 1) → (d ≤ dp) → (mg kf bs SS d tr vx = (mg kf bs SS dp (cl + 1) (mixV cf bf (lN (fc + cl)) (nI (ib)) ((bs + (nI (fst0 bk))) + (nI (2)))))) → ∀ (H : Heap) (locs : List Loc), Wd D A s [(h0, .inr (1, [.ref m0, .ref qk, .ref qs, .ref qc, .ref qb, .int (md), .int (bs), .int (nI (fc)), .int (nI (tk)), .int (nI (cl + 1)), .int (nI (d)), .int (nI (bk)), .int (nI (ib))])), (qk, .inl (cy 0, 8, .inl (kf))), (qs, .inl (cy 0, 40, .inl (sf))), (qc, .inl (cy 0, 8, .inl (cf))), (qb, .inl (cy 0, 16, .inl (bf))), (m0, .inr (2, [.ref mc, .ref mb, .long (cx), .int (lx), .int (fx), .ref mv, .ref ax, .ref ay])), (mc, .inl (cy 0, 8, .inl (chx))), (mb, .inl (cy 0, 16, .inl (blx))), (mv, .inl (cy 0, 16, .inl (vx))), (ax, .inl (cy 0, 16, .inl (wx))), (ay, .inl (cy 0, 16, .inl (nx)))] H locs → ∀ ls : Array Slot, lv_has ls 2 [(0, .ref h0), (1, .int (nI (tr)))] → W p l e ({ frames := 2, cells := 0, slots := 0, locals := 52 }) s m args below meth c H locs 0 0 Q (F0 m 27 ls []) := by
    intro nF
    induction nF with
    | zero => intro d tr chx blx cx lx fx vx ax ay wx nx hf; exact absurd hf (Nat.not_lt_zero _)
    | succ nF ih =>
      intro d tr chx blx cx lx fx vx ax ay wx nx hf hd2 ht0 ht1 hle hR H locs hW ls hl
      refine lv_aload_n hx hb dX1_closeChunk_27 rfl (lv_at hl 0 rfl) ?_
      refine va_get (D := D) (ci := 1) (v := .int (nI (d))) (C := RX1) (T := TX1) (N := 13) hx hb hts i_X1_closeChunk_X1 hown hK hW.1 0 rfl rfl 10 (by decide) (hts (.fieldLink RX1 58 "TreeHashes$Hasher" "depth" "I") f_X1_closeChunk_3) (fun _ h9 => h9) rfl dX1_closeChunk_28 ?_
      refine zLe (a := d) (tgt := 90) hx hb dX1_closeChunk_31 (by decide) (by omega) (fun h31 => ?_) (fun h31 => ?_)
      · skip
        have hRd : (mg kf bs SS dp (cl + 1) (mixV cf bf (lN (fc + cl)) (nI (ib)) ((bs + (nI (fst0 bk))) + (nI (2))))) = (d, vx) := by rw [← hR]; exact mg_o (by have := pcn_pos (n := tr - 1) (by omega) (by omega); omega)
        have hd5 : d + 1 ≤ 5 := by have q := mg_pc (K := kf) (bs := bs) (S := SS) (cl + 1) dp (mixV cf bf (lN (fc + cl)) (nI (ib)) ((bs + (nI (fst0 bk))) + (nI (2)))) hd0 (by omega) (by omega); rw [hRd] at q; have := pcn_40 (cl + 1) h40; omega
        refine lv_aload_n hx hb dX1_closeChunk_90 rfl (lv_at hl 0 rfl) ?_
        refine va_get (D := D) (ci := 1) (v := .int (nI (d))) (C := RX1) (T := TX1) (N := 13) hx hb hts i_X1_closeChunk_X1 hown hK hW.1 0 rfl rfl 10 (by decide) (hts (.fieldLink RX1 58 "TreeHashes$Hasher" "depth" "I") f_X1_closeChunk_3) (fun _ h9 => h9) rfl dX1_closeChunk_91 ?_
        refine lv_iconst (v := nI (5)) hx hb dX1_closeChunk_94 (by decide) ?_
        refine iGe (a := d) (b := 5) (tgt := 126) hx hb dX1_closeChunk_95 (by decide) (by omega) (by omega) (fun h95 => ?_) (fun h95 => ?_)
        · skip
          exfalso; omega
        · skip
          refine lv_aload_n hx hb dX1_closeChunk_98 rfl (lv_at hl 0 rfl) ?_
          refine va_get (D := D) (ci := 1) (v := .ref m0) (C := RX1) (T := TX1) (N := 13) hx hb hts i_X1_closeChunk_X1 hown hK hW.1 0 rfl rfl 0 (by decide) (hts (.fieldLink RX1 14 "TreeHashes$Hasher" "mix" "LTreeHashes$Mix;") f_X1_closeChunk_0) (fun _ h9 => h9) rfl dX1_closeChunk_99 ?_
          refine lv_aload_n hx hb dX1_closeChunk_102 rfl (lv_at hl 0 rfl) ?_
          refine va_get (D := D) (ci := 1) (v := .ref qs) (C := RX1) (T := TX1) (N := 13) hx hb hts i_X1_closeChunk_X1 hown hK hW.1 0 rfl rfl 2 (by decide) (hts (.fieldLink RX1 22 "TreeHashes$Hasher" "stack" "[I") f_X1_closeChunk_4) (fun _ h9 => h9) rfl dX1_closeChunk_103 ?_
          refine lv_aload_n hx hb dX1_closeChunk_106 rfl (lv_at hl 0 rfl) ?_
          refine va_get (D := D) (ci := 1) (v := .int (nI (d))) (C := RX1) (T := TX1) (N := 13) hx hb hts i_X1_closeChunk_X1 hown hK hW.1 0 rfl rfl 10 (by decide) (hts (.fieldLink RX1 58 "TreeHashes$Hasher" "depth" "I") f_X1_closeChunk_3) (fun _ h9 => h9) rfl dX1_closeChunk_107 ?_
          refine lv_bipush (v := nI (8)) hx hb dX1_closeChunk_110 (by decide) ?_
          refine lv_imul hx hb dX1_closeChunk_112 ?_
          refine tI (pk_mul _ _) ?_
          refine kVv (As := [.ref qs, .int (nI (d * 8))]) (rest := []) S0 hK hst hA hW [5, 8, 2] (fun sz => c_X2_writeChain l D cy t m0 mc mb mv ax ay cx lx fx vx qs 40 sf (d * 8) (by omega) (by omega) sz) rfl (by decide) (cwV 2 hts gX1_closeChunk_X2_writeChain rfl rfl rfl (by decide +kernel) ⟨Nat.le_of_ble_eq_true rfl, Nat.le_of_ble_eq_true rfl⟩) (fun _ => rfl) 0 2 rfl rfl rfl hl.1 rfl (Nat.le_of_ble_eq_true rfl) dX1_closeChunk_113 ⟨Nat.le_of_ble_eq_true rfl, Nat.le_of_ble_eq_true rfl⟩ (fun u113 H locs p113 hW => ?_)
          have hW : Wd D A s [(h0, .inr (1, [.ref m0, .ref qk, .ref qs, .ref qc, .ref qb, .int (md), .int (bs), .int (nI (fc)), .int (nI (tk)), .int (nI (cl + 1)), .int (nI (d)), .int (nI (bk)), .int (nI (ib))])), (qk, .inl (cy 0, 8, .inl (kf))), (qs, .inl (cy 0, 40, .inl (apG sf (d * 8) vx 8))), (qc, .inl (cy 0, 8, .inl (cf))), (qb, .inl (cy 0, 16, .inl (bf))), (m0, .inr (2, [.ref mc, .ref mb, .long (cx), .int (lx), .int (fx), .ref mv, .ref ax, .ref ay])), (mc, .inl (cy 0, 8, .inl (chx))), (mb, .inl (cy 0, 16, .inl (blx))), (mv, .inl (cy 0, 16, .inl (vx))), (ax, .inl (cy 0, 16, .inl (wx))), (ay, .inl (cy 0, 16, .inl (nx)))] H locs := hW
          refine lv_aload_n hx hb dX1_closeChunk_116 rfl (lv_at hl 0 rfl) ?_
          refine lv_dup hx hb dX1_closeChunk_117 rfl ?_
          refine va_get (D := D) (ci := 1) (v := .int (nI (d))) (C := RX1) (T := TX1) (N := 13) hx hb hts i_X1_closeChunk_X1 hown hK hW.1 0 rfl rfl 10 (by decide) (hts (.fieldLink RX1 58 "TreeHashes$Hasher" "depth" "I") f_X1_closeChunk_3) (fun _ h9 => h9) rfl dX1_closeChunk_118 ?_
          refine lv_iconst (v := nI (1)) hx hb dX1_closeChunk_121 (by decide) ?_
          refine lv_iadd hx hb dX1_closeChunk_122 ?_
          refine tI (nI_add _ _) ?_
          refine va_put (D := D) (ci := 1) (v := .int (nI (d + 1))) (ty := .int) (C := RX1) (T := TX1) (N := 13) hx hb hts i_X1_closeChunk_X1 tyX1 tyX1_ok nmX1 hown hK hW.1 hW.2.1 hW.2.2 0 rfl rfl 10 (by decide) (hts (.fieldLink RX1 58 "TreeHashes$Hasher" "depth" "I") f_X1_closeChunk_3) (fun _ h9 => h9) rfl (by decide +kernel) rfl rfl (Nat.le_of_ble_eq_true rfl) dX1_closeChunk_123 (fun H locs hP hD hS => ?_)
          have hW : Wd D A s [(h0, .inr (1, [.ref m0, .ref qk, .ref qs, .ref qc, .ref qb, .int (md), .int (bs), .int (nI (fc)), .int (nI (tk)), .int (nI (cl + 1)), .int (nI (d + 1)), .int (nI (bk)), .int (nI (ib))])), (qk, .inl (cy 0, 8, .inl (kf))), (qs, .inl (cy 0, 40, .inl (apG sf (d * 8) vx 8))), (qc, .inl (cy 0, 8, .inl (cf))), (qb, .inl (cy 0, 16, .inl (bf))), (m0, .inr (2, [.ref mc, .ref mb, .long (cx), .int (lx), .int (fx), .ref mv, .ref ax, .ref ay])), (mc, .inl (cy 0, 8, .inl (chx))), (mb, .inl (cy 0, 16, .inl (blx))), (mv, .inl (cy 0, 16, .inl (vx))), (ax, .inl (cy 0, 16, .inl (wx))), (ay, .inl (cy 0, 16, .inl (nx)))] H locs := ⟨hP, hD, hS⟩
          refine lv_aload_n hx hb dX1_closeChunk_126 rfl (lv_at hl 0 rfl) ?_
          refine kVv (As := []) (rest := []) S0 hK hst hA hW [0, 1, 3, 4] (fun sz => c_X1_startChunk l D cy t m0 h0 qk qs qc qb md bs fc tk (cl + 1) (d + 1) bk ib kf cf bf  sz) rfl (by decide) (cwV 0 hts gX1_closeChunk_X1_startChunk rfl rfl rfl (by decide +kernel) ⟨Nat.le_of_ble_eq_true rfl, Nat.le_of_ble_eq_true rfl⟩) (fun _ => rfl) 0 1 rfl rfl rfl hl.1 rfl (Nat.le_of_ble_eq_true rfl) dX1_closeChunk_127 ⟨Nat.le_of_ble_eq_true rfl, Nat.le_of_ble_eq_true rfl⟩ (fun u127 H locs p127 hW => ?_)
          have hW : Wd D A s [(h0, .inr (1, [.ref m0, .ref qk, .ref qs, .ref qc, .ref qb, .int (md), .int (bs), .int (nI (fc)), .int (nI (tk)), .int (nI ((cl + 1))), .int (nI ((d + 1))), .int (nI (0)), .int (nI (0))])), (qk, .inl (cy 0, 8, .inl (kf))), (qs, .inl (cy 0, 40, .inl (apG sf (d * 8) vx 8))), (qc, .inl (cy 0, 8, .inl (kf))), (qb, .inl (cy 0, 16, .inl ((fun _ => nI (0))))), (m0, .inr (2, [.ref mc, .ref mb, .long (cx), .int (lx), .int (fx), .ref mv, .ref ax, .ref ay])), (mc, .inl (cy 0, 8, .inl (chx))), (mb, .inl (cy 0, 16, .inl (blx))), (mv, .inl (cy 0, 16, .inl (vx))), (ax, .inl (cy 0, 16, .inl (wx))), (ay, .inl (cy 0, 16, .inl (nx)))] H locs := hW
          exact eV hQ hx hb hr hlocks hK hW (apG sf (d * 8) vx 8, chx, blx, cx, lx, fx, vx, ax, ay, wx, nx) (by rw [hRd]; exact SKr_push hSk hle) (by simp only [hRd]) dX1_closeChunk_130
      · skip
        refine lv_iload_n hx hb dX1_closeChunk_34 rfl (lv_at hl 1 rfl) ?_
        refine lv_iconst (v := nI (1)) hx hb dX1_closeChunk_35 (by decide) ?_
        refine lv_iand hx hb dX1_closeChunk_36 ?_
        refine tI (x' := nI (tr % 2)) (pk_andN (by omega) 1 (by decide)) ?_
        refine zNe (a := tr % 2) (tgt := 90) hx hb dX1_closeChunk_37 (by decide) (by omega) (fun h37 => ?_) (fun h37 => ?_)
        · skip
          have hRd : (mg kf bs SS dp (cl + 1) (mixV cf bf (lN (fc + cl)) (nI (ib)) ((bs + (nI (fst0 bk))) + (nI (2))))) = (d, vx) := by rw [← hR]; exact mg_o h37
          have hd5 : d + 1 ≤ 5 := by have q := mg_pc (K := kf) (bs := bs) (S := SS) (cl + 1) dp (mixV cf bf (lN (fc + cl)) (nI (ib)) ((bs + (nI (fst0 bk))) + (nI (2)))) hd0 (by omega) (by omega); rw [hRd] at q; have := pcn_40 (cl + 1) h40; omega
          refine lv_aload_n hx hb dX1_closeChunk_90 rfl (lv_at hl 0 rfl) ?_
          refine va_get (D := D) (ci := 1) (v := .int (nI (d))) (C := RX1) (T := TX1) (N := 13) hx hb hts i_X1_closeChunk_X1 hown hK hW.1 0 rfl rfl 10 (by decide) (hts (.fieldLink RX1 58 "TreeHashes$Hasher" "depth" "I") f_X1_closeChunk_3) (fun _ h9 => h9) rfl dX1_closeChunk_91 ?_
          refine lv_iconst (v := nI (5)) hx hb dX1_closeChunk_94 (by decide) ?_
          refine iGe (a := d) (b := 5) (tgt := 126) hx hb dX1_closeChunk_95 (by decide) (by omega) (by omega) (fun h95 => ?_) (fun h95 => ?_)
          · skip
            exfalso; omega
          · skip
            refine lv_aload_n hx hb dX1_closeChunk_98 rfl (lv_at hl 0 rfl) ?_
            refine va_get (D := D) (ci := 1) (v := .ref m0) (C := RX1) (T := TX1) (N := 13) hx hb hts i_X1_closeChunk_X1 hown hK hW.1 0 rfl rfl 0 (by decide) (hts (.fieldLink RX1 14 "TreeHashes$Hasher" "mix" "LTreeHashes$Mix;") f_X1_closeChunk_0) (fun _ h9 => h9) rfl dX1_closeChunk_99 ?_
            refine lv_aload_n hx hb dX1_closeChunk_102 rfl (lv_at hl 0 rfl) ?_
            refine va_get (D := D) (ci := 1) (v := .ref qs) (C := RX1) (T := TX1) (N := 13) hx hb hts i_X1_closeChunk_X1 hown hK hW.1 0 rfl rfl 2 (by decide) (hts (.fieldLink RX1 22 "TreeHashes$Hasher" "stack" "[I") f_X1_closeChunk_4) (fun _ h9 => h9) rfl dX1_closeChunk_103 ?_
            refine lv_aload_n hx hb dX1_closeChunk_106 rfl (lv_at hl 0 rfl) ?_
            refine va_get (D := D) (ci := 1) (v := .int (nI (d))) (C := RX1) (T := TX1) (N := 13) hx hb hts i_X1_closeChunk_X1 hown hK hW.1 0 rfl rfl 10 (by decide) (hts (.fieldLink RX1 58 "TreeHashes$Hasher" "depth" "I") f_X1_closeChunk_3) (fun _ h9 => h9) rfl dX1_closeChunk_107 ?_
            refine lv_bipush (v := nI (8)) hx hb dX1_closeChunk_110 (by decide) ?_
            refine lv_imul hx hb dX1_closeChunk_112 ?_
            refine tI (pk_mul _ _) ?_
            refine kVv (As := [.ref qs, .int (nI (d * 8))]) (rest := []) S0 hK hst hA hW [5, 8, 2] (fun sz => c_X2_writeChain l D cy t m0 mc mb mv ax ay cx lx fx vx qs 40 sf (d * 8) (by omega) (by omega) sz) rfl (by decide) (cwV 2 hts gX1_closeChunk_X2_writeChain rfl rfl rfl (by decide +kernel) ⟨Nat.le_of_ble_eq_true rfl, Nat.le_of_ble_eq_true rfl⟩) (fun _ => rfl) 0 2 rfl rfl rfl hl.1 rfl (Nat.le_of_ble_eq_true rfl) dX1_closeChunk_113 ⟨Nat.le_of_ble_eq_true rfl, Nat.le_of_ble_eq_true rfl⟩ (fun u113 H locs p113 hW => ?_)
            have hW : Wd D A s [(h0, .inr (1, [.ref m0, .ref qk, .ref qs, .ref qc, .ref qb, .int (md), .int (bs), .int (nI (fc)), .int (nI (tk)), .int (nI (cl + 1)), .int (nI (d)), .int (nI (bk)), .int (nI (ib))])), (qk, .inl (cy 0, 8, .inl (kf))), (qs, .inl (cy 0, 40, .inl (apG sf (d * 8) vx 8))), (qc, .inl (cy 0, 8, .inl (cf))), (qb, .inl (cy 0, 16, .inl (bf))), (m0, .inr (2, [.ref mc, .ref mb, .long (cx), .int (lx), .int (fx), .ref mv, .ref ax, .ref ay])), (mc, .inl (cy 0, 8, .inl (chx))), (mb, .inl (cy 0, 16, .inl (blx))), (mv, .inl (cy 0, 16, .inl (vx))), (ax, .inl (cy 0, 16, .inl (wx))), (ay, .inl (cy 0, 16, .inl (nx)))] H locs := hW
            refine lv_aload_n hx hb dX1_closeChunk_116 rfl (lv_at hl 0 rfl) ?_
            refine lv_dup hx hb dX1_closeChunk_117 rfl ?_
            refine va_get (D := D) (ci := 1) (v := .int (nI (d))) (C := RX1) (T := TX1) (N := 13) hx hb hts i_X1_closeChunk_X1 hown hK hW.1 0 rfl rfl 10 (by decide) (hts (.fieldLink RX1 58 "TreeHashes$Hasher" "depth" "I") f_X1_closeChunk_3) (fun _ h9 => h9) rfl dX1_closeChunk_118 ?_
            refine lv_iconst (v := nI (1)) hx hb dX1_closeChunk_121 (by decide) ?_
            refine lv_iadd hx hb dX1_closeChunk_122 ?_
            refine tI (nI_add _ _) ?_
            refine va_put (D := D) (ci := 1) (v := .int (nI (d + 1))) (ty := .int) (C := RX1) (T := TX1) (N := 13) hx hb hts i_X1_closeChunk_X1 tyX1 tyX1_ok nmX1 hown hK hW.1 hW.2.1 hW.2.2 0 rfl rfl 10 (by decide) (hts (.fieldLink RX1 58 "TreeHashes$Hasher" "depth" "I") f_X1_closeChunk_3) (fun _ h9 => h9) rfl (by decide +kernel) rfl rfl (Nat.le_of_ble_eq_true rfl) dX1_closeChunk_123 (fun H locs hP hD hS => ?_)
            have hW : Wd D A s [(h0, .inr (1, [.ref m0, .ref qk, .ref qs, .ref qc, .ref qb, .int (md), .int (bs), .int (nI (fc)), .int (nI (tk)), .int (nI (cl + 1)), .int (nI (d + 1)), .int (nI (bk)), .int (nI (ib))])), (qk, .inl (cy 0, 8, .inl (kf))), (qs, .inl (cy 0, 40, .inl (apG sf (d * 8) vx 8))), (qc, .inl (cy 0, 8, .inl (cf))), (qb, .inl (cy 0, 16, .inl (bf))), (m0, .inr (2, [.ref mc, .ref mb, .long (cx), .int (lx), .int (fx), .ref mv, .ref ax, .ref ay])), (mc, .inl (cy 0, 8, .inl (chx))), (mb, .inl (cy 0, 16, .inl (blx))), (mv, .inl (cy 0, 16, .inl (vx))), (ax, .inl (cy 0, 16, .inl (wx))), (ay, .inl (cy 0, 16, .inl (nx)))] H locs := ⟨hP, hD, hS⟩
            refine lv_aload_n hx hb dX1_closeChunk_126 rfl (lv_at hl 0 rfl) ?_
            refine kVv (As := []) (rest := []) S0 hK hst hA hW [0, 1, 3, 4] (fun sz => c_X1_startChunk l D cy t m0 h0 qk qs qc qb md bs fc tk (cl + 1) (d + 1) bk ib kf cf bf  sz) rfl (by decide) (cwV 0 hts gX1_closeChunk_X1_startChunk rfl rfl rfl (by decide +kernel) ⟨Nat.le_of_ble_eq_true rfl, Nat.le_of_ble_eq_true rfl⟩) (fun _ => rfl) 0 1 rfl rfl rfl hl.1 rfl (Nat.le_of_ble_eq_true rfl) dX1_closeChunk_127 ⟨Nat.le_of_ble_eq_true rfl, Nat.le_of_ble_eq_true rfl⟩ (fun u127 H locs p127 hW => ?_)
            have hW : Wd D A s [(h0, .inr (1, [.ref m0, .ref qk, .ref qs, .ref qc, .ref qb, .int (md), .int (bs), .int (nI (fc)), .int (nI (tk)), .int (nI ((cl + 1))), .int (nI ((d + 1))), .int (nI (0)), .int (nI (0))])), (qk, .inl (cy 0, 8, .inl (kf))), (qs, .inl (cy 0, 40, .inl (apG sf (d * 8) vx 8))), (qc, .inl (cy 0, 8, .inl (kf))), (qb, .inl (cy 0, 16, .inl ((fun _ => nI (0))))), (m0, .inr (2, [.ref mc, .ref mb, .long (cx), .int (lx), .int (fx), .ref mv, .ref ax, .ref ay])), (mc, .inl (cy 0, 8, .inl (chx))), (mb, .inl (cy 0, 16, .inl (blx))), (mv, .inl (cy 0, 16, .inl (vx))), (ax, .inl (cy 0, 16, .inl (wx))), (ay, .inl (cy 0, 16, .inl (nx)))] H locs := hW
            exact eV hQ hx hb hr hlocks hK hW (apG sf (d * 8) vx 8, chx, blx, cx, lx, fx, vx, ax, ay, wx, nx) (by rw [hRd]; exact SKr_push hSk hle) (by simp only [hRd]) dX1_closeChunk_130
        · skip
          refine lv_aload_n hx hb dX1_closeChunk_40 rfl (lv_at hl 0 rfl) ?_
          refine lv_dup hx hb dX1_closeChunk_41 rfl ?_
          refine va_get (D := D) (ci := 1) (v := .int (nI (d))) (C := RX1) (T := TX1) (N := 13) hx hb hts i_X1_closeChunk_X1 hown hK hW.1 0 rfl rfl 10 (by decide) (hts (.fieldLink RX1 58 "TreeHashes$Hasher" "depth" "I") f_X1_closeChunk_3) (fun _ h9 => h9) rfl dX1_closeChunk_42 ?_
          refine lv_iconst (v := nI (1)) hx hb dX1_closeChunk_45 (by decide) ?_
          refine lv_isub hx hb dX1_closeChunk_46 ?_
          refine tI (pk_sub (by omega)) ?_
          refine va_put (D := D) (ci := 1) (v := .int (nI (d - 1))) (ty := .int) (C := RX1) (T := TX1) (N := 13) hx hb hts i_X1_closeChunk_X1 tyX1 tyX1_ok nmX1 hown hK hW.1 hW.2.1 hW.2.2 0 rfl rfl 10 (by decide) (hts (.fieldLink RX1 58 "TreeHashes$Hasher" "depth" "I") f_X1_closeChunk_3) (fun _ h9 => h9) rfl (by decide +kernel) rfl rfl (Nat.le_of_ble_eq_true rfl) dX1_closeChunk_47 (fun H locs hP hD hS => ?_)
          have hW : Wd D A s [(h0, .inr (1, [.ref m0, .ref qk, .ref qs, .ref qc, .ref qb, .int (md), .int (bs), .int (nI (fc)), .int (nI (tk)), .int (nI (cl + 1)), .int (nI (d - 1)), .int (nI (bk)), .int (nI (ib))])), (qk, .inl (cy 0, 8, .inl (kf))), (qs, .inl (cy 0, 40, .inl (sf))), (qc, .inl (cy 0, 8, .inl (cf))), (qb, .inl (cy 0, 16, .inl (bf))), (m0, .inr (2, [.ref mc, .ref mb, .long (cx), .int (lx), .int (fx), .ref mv, .ref ax, .ref ay])), (mc, .inl (cy 0, 8, .inl (chx))), (mb, .inl (cy 0, 16, .inl (blx))), (mv, .inl (cy 0, 16, .inl (vx))), (ax, .inl (cy 0, 16, .inl (wx))), (ay, .inl (cy 0, 16, .inl (nx)))] H locs := ⟨hP, hD, hS⟩
          refine lv_aload_n hx hb dX1_closeChunk_50 rfl (lv_at hl 0 rfl) ?_
          refine va_get (D := D) (ci := 1) (v := .ref m0) (C := RX1) (T := TX1) (N := 13) hx hb hts i_X1_closeChunk_X1 hown hK hW.1 0 rfl rfl 0 (by decide) (hts (.fieldLink RX1 14 "TreeHashes$Hasher" "mix" "LTreeHashes$Mix;") f_X1_closeChunk_0) (fun _ h9 => h9) rfl dX1_closeChunk_51 ?_
          refine lv_aload_n hx hb dX1_closeChunk_54 rfl (lv_at hl 0 rfl) ?_
          refine va_get (D := D) (ci := 1) (v := .ref qs) (C := RX1) (T := TX1) (N := 13) hx hb hts i_X1_closeChunk_X1 hown hK hW.1 0 rfl rfl 2 (by decide) (hts (.fieldLink RX1 22 "TreeHashes$Hasher" "stack" "[I") f_X1_closeChunk_4) (fun _ h9 => h9) rfl dX1_closeChunk_55 ?_
          refine lv_aload_n hx hb dX1_closeChunk_58 rfl (lv_at hl 0 rfl) ?_
          refine va_get (D := D) (ci := 1) (v := .int (nI (d - 1))) (C := RX1) (T := TX1) (N := 13) hx hb hts i_X1_closeChunk_X1 hown hK hW.1 0 rfl rfl 10 (by decide) (hts (.fieldLink RX1 58 "TreeHashes$Hasher" "depth" "I") f_X1_closeChunk_3) (fun _ h9 => h9) rfl dX1_closeChunk_59 ?_
          refine lv_bipush (v := nI (8)) hx hb dX1_closeChunk_62 (by decide) ?_
          refine lv_imul hx hb dX1_closeChunk_64 ?_
          refine tI (pk_mul _ _) ?_
          refine lv_aload_n hx hb dX1_closeChunk_65 rfl (lv_at hl 0 rfl) ?_
          refine va_get (D := D) (ci := 1) (v := .ref qk) (C := RX1) (T := TX1) (N := 13) hx hb hts i_X1_closeChunk_X1 hown hK hW.1 0 rfl rfl 1 (by decide) (hts (.fieldLink RX1 18 "TreeHashes$Hasher" "key" "[I") f_X1_closeChunk_5) (fun _ h9 => h9) rfl dX1_closeChunk_66 ?_
          refine lv_aload_n hx hb dX1_closeChunk_69 rfl (lv_at hl 0 rfl) ?_
          refine va_get (D := D) (ci := 1) (v := .int (bs)) (C := RX1) (T := TX1) (N := 13) hx hb hts i_X1_closeChunk_X1 hown hK hW.1 0 rfl rfl 6 (by decide) (hts (.fieldLink RX1 46 "TreeHashes$Hasher" "base" "I") f_X1_closeChunk_6) (fun _ h9 => h9) rfl dX1_closeChunk_70 ?_
          refine kVv (As := [.ref qs, .int (nI ((d - 1) * 8)), .ref qk, .int (bs)]) (rest := []) S0 hK hst hA hW [5, 6, 7, 8, 2, 1] (fun sz => c_X2_joinBehind l D cy t m0 mc mb mv ax ay cx lx fx chx blx vx qs 40 sf ((d - 1) * 8) qk kf bs (by omega) (by omega) sz) rfl (by decide) (cwV 4 hts gX1_closeChunk_X2_joinBehind rfl rfl rfl (by decide +kernel) ⟨Nat.le_of_ble_eq_true rfl, Nat.le_of_ble_eq_true rfl⟩) (fun _ => rfl) 0 2 rfl rfl rfl hl.1 rfl (Nat.le_of_ble_eq_true rfl) dX1_closeChunk_73 ⟨Nat.le_of_ble_eq_true rfl, Nat.le_of_ble_eq_true rfl⟩ (fun u73 H locs p73 hW => ?_)
          have hW : Wd D A s [(h0, .inr (1, [.ref m0, .ref qk, .ref qs, .ref qc, .ref qb, .int (md), .int (bs), .int (nI (fc)), .int (nI (tk)), .int (nI (cl + 1)), .int (nI (d - 1)), .int (nI (bk)), .int (nI (ib))])), (qk, .inl (cy 0, 8, .inl (kf))), (qs, .inl (cy 0, 40, .inl (sf))), (qc, .inl (cy 0, 8, .inl (cf))), (qb, .inl (cy 0, 16, .inl (bf))), (m0, .inr (2, [.ref mc, .ref mb, .long (lN 0), .int (nI (64)), .int (bs + (nI (4))), .ref mv, .ref ax, .ref ay])), (mc, .inl (cy 0, 8, .inl (kf))), (mb, .inl (cy 0, 16, .inl (jn (fun k => sf (((d - 1) * 8) + k)) vx))), (mv, .inl (cy 0, 16, .inl (vx))), (ax, .inl (cy 0, 16, .inl (wx))), (ay, .inl (cy 0, 16, .inl (nx)))] H locs := hW
          have hW := Wd.ext hW 7 rfl (jn (SS (d - 1)) vx) (jn_ext (fun k hk => hSk (d - 1) (by omega) k hk) (fun _ _ => rfl))
          have hW : Wd D A s [(h0, .inr (1, [.ref m0, .ref qk, .ref qs, .ref qc, .ref qb, .int (md), .int (bs), .int (nI (fc)), .int (nI (tk)), .int (nI (cl + 1)), .int (nI (d - 1)), .int (nI (bk)), .int (nI (ib))])), (qk, .inl (cy 0, 8, .inl (kf))), (qs, .inl (cy 0, 40, .inl (sf))), (qc, .inl (cy 0, 8, .inl (cf))), (qb, .inl (cy 0, 16, .inl (bf))), (m0, .inr (2, [.ref mc, .ref mb, .long (lN 0), .int (nI (64)), .int (bs + (nI (4))), .ref mv, .ref ax, .ref ay])), (mc, .inl (cy 0, 8, .inl (kf))), (mb, .inl (cy 0, 16, .inl (jn (SS (d - 1)) vx))), (mv, .inl (cy 0, 16, .inl (vx))), (ax, .inl (cy 0, 16, .inl (wx))), (ay, .inl (cy 0, 16, .inl (nx)))] H locs := hW
          refine lv_aload_n hx hb dX1_closeChunk_76 rfl (lv_at hl 0 rfl) ?_
          refine va_get (D := D) (ci := 1) (v := .ref m0) (C := RX1) (T := TX1) (N := 13) hx hb hts i_X1_closeChunk_X1 hown hK hW.1 0 rfl rfl 0 (by decide) (hts (.fieldLink RX1 14 "TreeHashes$Hasher" "mix" "LTreeHashes$Mix;") f_X1_closeChunk_0) (fun _ h9 => h9) rfl dX1_closeChunk_77 ?_
          refine kVv (As := []) (rest := []) S0 hK hst hA hW [5, 6, 7, 8, 9, 10] (fun sz => c_X2_run l D cy t m0 mc mb mv ax ay (lN 0) (nI (64)) (bs + (nI (4))) kf (jn (SS (d - 1)) vx) vx wx nx  sz) rfl (by decide) (cwV 0 hts gX1_closeChunk_X2_run rfl rfl rfl (by decide +kernel) ⟨Nat.le_of_ble_eq_true rfl, Nat.le_of_ble_eq_true rfl⟩) (fun ⟨_, _, _, _⟩ => rfl) 0 2 rfl rfl rfl hl.1 rfl (Nat.le_of_ble_eq_true rfl) dX1_closeChunk_80 ⟨Nat.le_of_ble_eq_true rfl, Nat.le_of_ble_eq_true rfl⟩ (fun u80 H locs p80 hW => ?_)
          obtain ⟨aw2_80, an2_80, w2_80, nw2_80⟩ := u80
          have hW : Wd D A s [(h0, .inr (1, [.ref m0, .ref qk, .ref qs, .ref qc, .ref qb, .int (md), .int (bs), .int (nI (fc)), .int (nI (tk)), .int (nI (cl + 1)), .int (nI (d - 1)), .int (nI (bk)), .int (nI (ib))])), (qk, .inl (cy 0, 8, .inl (kf))), (qs, .inl (cy 0, 40, .inl (sf))), (qc, .inl (cy 0, 8, .inl (cf))), (qb, .inl (cy 0, 16, .inl (bf))), (m0, .inr (2, [.ref mc, .ref mb, .long ((lN 0)), .int ((nI (64))), .int ((bs + (nI (4)))), .ref mv, .ref aw2_80, .ref an2_80])), (mc, .inl (cy 0, 8, .inl (kf))), (mb, .inl (cy 0, 16, .inl ((jn (SS (d - 1)) vx)))), (mv, .inl (cy 0, 16, .inl (mixV kf (jn (SS (d - 1)) vx) (lN 0) (nI (64)) (bs + (nI (4)))))), (aw2_80, .inl (cy 0, 16, .inl (w2_80))), (an2_80, .inl (cy 0, 16, .inl (nw2_80)))] H locs := hW
          rw [show (mixV kf (jn (SS (d - 1)) vx) (lN 0) (nI (64)) (bs + (nI (4)))) = (par2 kf bs (SS (d - 1)) vx) from rfl] at hW
          have hW : Wd D A s [(h0, .inr (1, [.ref m0, .ref qk, .ref qs, .ref qc, .ref qb, .int (md), .int (bs), .int (nI (fc)), .int (nI (tk)), .int (nI (cl + 1)), .int (nI (d - 1)), .int (nI (bk)), .int (nI (ib))])), (qk, .inl (cy 0, 8, .inl (kf))), (qs, .inl (cy 0, 40, .inl (sf))), (qc, .inl (cy 0, 8, .inl (cf))), (qb, .inl (cy 0, 16, .inl (bf))), (m0, .inr (2, [.ref mc, .ref mb, .long ((lN 0)), .int ((nI (64))), .int ((bs + (nI (4)))), .ref mv, .ref aw2_80, .ref an2_80])), (mc, .inl (cy 0, 8, .inl (kf))), (mb, .inl (cy 0, 16, .inl ((jn (SS (d - 1)) vx)))), (mv, .inl (cy 0, 16, .inl (par2 kf bs (SS (d - 1)) vx))), (aw2_80, .inl (cy 0, 16, .inl (w2_80))), (an2_80, .inl (cy 0, 16, .inl (nw2_80)))] H locs := hW
          refine lv_iload_n hx hb dX1_closeChunk_83 rfl (lv_at hl 1 rfl) ?_
          refine lv_iconst (v := nI (1)) hx hb dX1_closeChunk_84 (by decide) ?_
          refine lv_ishr hx hb dX1_closeChunk_85 ?_
          refine tI (x' := nI (tr / 2)) (pk_shrN (by omega) _ 1 (by decide)) ?_
          refine lv_istore_n (lv' := [(1, .int (nI (tr / 2))), (0, .ref h0)]) hx hb dX1_closeChunk_86 rfl hl (by decide) rfl (fun ls hl => ?_)
          refine lv_goto (tgt := 27) hx hb dX1_closeChunk_87 (by decide) ?_
          exact ih (d - 1) (tr / 2) kf ((jn (SS (d - 1)) vx)) ((lN 0)) ((nI (64))) ((bs + (nI (4)))) (par2 kf bs (SS (d - 1)) vx) aw2_80 an2_80 w2_80 nw2_80 (by omega) ((pc_even hd2 ht0 (by omega) h37).2) (by omega) (by omega) (by omega) (by rw [← hR, mg_e h37 ht0]) _ _ hW _ (lv_sub hl [1, 0] rfl)
  exact loop27 _ dp (cl + 1) cf bf ((lN (fc + cl))) ((nI (ib))) (((bs + (nI (fst0 bk))) + (nI (2)))) (mixV cf bf (lN (fc + cl)) (nI (ib)) ((bs + (nI (fst0 bk))) + (nI (2)))) aw2_9 an2_9 w2_9 nw2_9 (Nat.lt_succ_self _) (by rw [hd0]; rfl) (by omega) (by omega) (Nat.le_refl _) (rfl) _ _ hW _ (lv_sub hl [1, 0] rfl)

theorem f_X1_prepareLast_0 : Cond.fieldLink RX1 58 "TreeHashes$Hasher" "depth" "I" ∈ wsX1_prepareLast := by decide +kernel
theorem i_X1_prepareLast_X1 : ∀ w ∈ wsX10, w ∈ wsX1_prepareLast := by decide +kernel
theorem f_X1_prepareLast_2 : Cond.fieldLink RX1 14 "TreeHashes$Hasher" "mix" "LTreeHashes$Mix;" ∈ wsX1_prepareLast := by decide +kernel
theorem f_X1_prepareLast_3 : Cond.fieldLink RX1 22 "TreeHashes$Hasher" "stack" "[I" ∈ wsX1_prepareLast := by decide +kernel
theorem f_X1_prepareLast_4 : Cond.fieldLink RX1 18 "TreeHashes$Hasher" "key" "[I" ∈ wsX1_prepareLast := by decide +kernel
theorem f_X1_prepareLast_5 : Cond.fieldLink RX1 46 "TreeHashes$Hasher" "base" "I" ∈ wsX1_prepareLast := by decide +kernel
set_option maxHeartbeats 4000000 in
set_option maxRecDepth 100000 in
theorem c_X1_prepareLast (l : Launch) (D : va_G) (cy : Nat → ClassId) (t : Nat × Nat) (m0 : Nat) (mc : Nat) (mb : Nat) (mv : Nat) (aw : Nat) (an : Nat) (ct : Int64) (ln : Int32) (fl : Int32) (h0 : Nat) (qk : Nat) (qs : Nat) (qc : Nat) (qb : Nat) (md : Int32) (bs : Int32) (fc : Nat) (tk : Nat) (cl : Nat) (dp : Nat) (bk : Nat) (ib : Nat) (ch : Nat → Int32) (bl : Nat → Int32) (v : Nat → Int32) (w : Nat → Int32) (nw : Nat → Int32) (kf : Nat → Int32) (sf : Nat → Int32) (cf : Nat → Int32) (bf : Nat → Int32) (SS : Nat → Nat → Int32) (hfc : fc + cl < 2 ^ 31) (hb1 : bk < 2 ^ 31) (hp5 : dp ≤ 5) (hSk : SKr sf SS dp) (sz : Nat) : Met l yX1_prepareLast wsX1_prepareLast ({ frames := 2, cells := 0, slots := 0, locals := 52 }) (PcW D cy t [(h0, .inr (1, [.ref m0, .ref qk, .ref qs, .ref qc, .ref qb, .int (md), .int (bs), .int (nI (fc)), .int (nI (tk)), .int (nI (cl)), .int (nI (dp)), .int (nI (bk)), .int (nI (ib))])), (qk, .inl (cy 0, 8, .inl (kf))), (qs, .inl (cy 0, 40, .inl (sf))), (qc, .inl (cy 0, 8, .inl (cf))), (qb, .inl (cy 0, 16, .inl (bf))), (m0, .inr (2, [.ref mc, .ref mb, .long (ct), .int (ln), .int (fl), .ref mv, .ref aw, .ref an])), (mc, .inl (cy 0, 8, .inl (ch))), (mb, .inl (cy 0, 16, .inl (bl))), (mv, .inl (cy 0, 16, .inl (v))), (aw, .inl (cy 0, 16, .inl (w))), (an, .inl (cy 0, 16, .inl (nw)))] [.ref h0] sz) (QvA D cy (fun u : (Nat → Int32) × (Nat) × (Nat) × (Nat → Int32) × (Nat → Int32) => match u with | (v2, aw2, an2, w2, nw2) => True) (fun u : (Nat → Int32) × (Nat) × (Nat) × (Nat → Int32) × (Nat → Int32) => match u with | (v2, aw2, an2, w2, nw2) => [(h0, .inr (1, [.ref m0, .ref qk, .ref qs, .ref qc, .ref qb, .int (md), .int (bs), .int (nI (fc)), .int (nI (tk)), .int (nI (cl)), .int (nI (dp)), .int (nI (bk)), .int (nI (ib))])), (qk, .inl (cy 0, 8, .inl (kf))), (qs, .inl (cy 0, 40, .inl (sf))), (qc, .inl (cy 0, 8, .inl (cf))), (qb, .inl (cy 0, 16, .inl (bf))), (m0, .inr (2, [.ref mc, .ref mb, .long ((upN kf bs SS dp (cf, bf, lN (fc + cl), nI (ib), (bs + (nI (fst0 bk))) + (nI (2)))).2.2.1), .int ((upN kf bs SS dp (cf, bf, lN (fc + cl), nI (ib), (bs + (nI (fst0 bk))) + (nI (2)))).2.2.2.1), .int ((upN kf bs SS dp (cf, bf, lN (fc + cl), nI (ib), (bs + (nI (fst0 bk))) + (nI (2)))).2.2.2.2), .ref mv, .ref aw2, .ref an2])), (mc, .inl (cy 0, 8, .inl ((upN kf bs SS dp (cf, bf, lN (fc + cl), nI (ib), (bs + (nI (fst0 bk))) + (nI (2)))).1))), (mb, .inl (cy 0, 16, .inl ((upN kf bs SS dp (cf, bf, lN (fc + cl), nI (ib), (bs + (nI (fst0 bk))) + (nI (2)))).2.1))), (mv, .inl (cy 0, 16, .inl (v2))), (aw2, .inl (cy 0, 16, .inl (w2))), (an2, .inl (cy 0, 16, .inl (nw2)))]) (va_A [(h0, .inr (1, [.ref m0, .ref qk, .ref qs, .ref qc, .ref qb, .int (md), .int (bs), .int (nI (fc)), .int (nI (tk)), .int (nI (cl)), .int (nI (dp)), .int (nI (bk)), .int (nI (ib))])), (qk, .inl (cy 0, 8, .inl (kf))), (qs, .inl (cy 0, 40, .inl (sf))), (qc, .inl (cy 0, 8, .inl (cf))), (qb, .inl (cy 0, 16, .inl (bf))), (m0, .inr (2, [.ref mc, .ref mb, .long (ct), .int (ln), .int (fl), .ref mv, .ref aw, .ref an])), (mc, .inl (cy 0, 8, .inl (ch))), (mb, .inl (cy 0, 16, .inl (bl))), (mv, .inl (cy 0, 16, .inl (v))), (aw, .inl (cy 0, 16, .inl (w))), (an, .inl (cy 0, 16, .inl (nw)))] sz)) 0 0 (va_A [(h0, .inr (1, [.ref m0, .ref qk, .ref qs, .ref qc, .ref qb, .int (md), .int (bs), .int (nI (fc)), .int (nI (tk)), .int (nI (cl)), .int (nI (dp)), .int (nI (bk)), .int (nI (ib))])), (qk, .inl (cy 0, 8, .inl (kf))), (qs, .inl (cy 0, 40, .inl (sf))), (qc, .inl (cy 0, 8, .inl (cf))), (qb, .inl (cy 0, 16, .inl (bf))), (m0, .inr (2, [.ref mc, .ref mb, .long (ct), .int (ln), .int (fl), .ref mv, .ref aw, .ref an])), (mc, .inl (cy 0, 8, .inl (ch))), (mb, .inl (cy 0, 16, .inl (bl))), (mv, .inl (cy 0, 16, .inl (v))), (aw, .inl (cy 0, 16, .inl (w))), (an, .inl (cy 0, 16, .inl (nw)))] sz) := by
  refine M_ofW (cc := cX1_prepareLast) (maxL := 2) (ret := none) (by decide) rfl (Nat.le_of_ble_eq_true rfl) ?_
  intro p e s m below meth c A ls args Q hQ S0 hr hlocks hnm hK hst hA hW hl
  have hx := S0.1; have hb := S0.2.1; have hml := S0.2.2.1; have hown := S0.2.2.2.1; have hts := S0.2.2.2.2
  have hl : lv_has ls 2 [(0, .ref h0)] := hl
  refine lv_aload_n hx hb dX1_prepareLast_0 rfl (lv_at hl 0 rfl) ?_
  refine lv_iconst (v := nI (2)) hx hb dX1_prepareLast_1 (by decide) ?_
  refine kVv (As := [.int (nI (2))]) (rest := []) S0 hK hst hA hW [0, 3, 4, 5, 6, 7] (fun sz => c_X1_prepareBlock l D cy t m0 mc mb mv aw an ct ln fl h0 qk qs qc qb md bs fc tk cl dp bk ib ch bl cf bf (nI (2)) (by omega) (by omega) sz) rfl (by decide) (cwV 1 hts gX1_prepareLast_X1_prepareBlock rfl rfl rfl (by decide +kernel) ⟨Nat.le_of_ble_eq_true rfl, Nat.le_of_ble_eq_true rfl⟩) (fun _ => rfl) 0 1 rfl rfl rfl hl.1 rfl (Nat.le_of_ble_eq_true rfl) dX1_prepareLast_2 ⟨Nat.le_of_ble_eq_true rfl, Nat.le_of_ble_eq_true rfl⟩ (fun u2 H locs p2 hW => ?_)
  have hW : Wd D A s [(h0, .inr (1, [.ref m0, .ref qk, .ref qs, .ref qc, .ref qb, .int (md), .int (bs), .int (nI (fc)), .int (nI (tk)), .int (nI (cl)), .int (nI (dp)), .int (nI (bk)), .int (nI (ib))])), (qk, .inl (cy 0, 8, .inl (kf))), (qs, .inl (cy 0, 40, .inl (sf))), (qc, .inl (cy 0, 8, .inl (cf))), (qb, .inl (cy 0, 16, .inl (bf))), (m0, .inr (2, [.ref mc, .ref mb, .long (lN (fc + cl)), .int (nI (ib)), .int ((bs + (nI (fst0 bk))) + (nI (2))), .ref mv, .ref aw, .ref an])), (mc, .inl (cy 0, 8, .inl (cf))), (mb, .inl (cy 0, 16, .inl (bf))), (mv, .inl (cy 0, 16, .inl (v))), (aw, .inl (cy 0, 16, .inl (w))), (an, .inl (cy 0, 16, .inl (nw)))] H locs := hW
  refine lv_aload_n hx hb dX1_prepareLast_5 rfl (lv_at hl 0 rfl) ?_
  refine va_get (D := D) (ci := 1) (v := .int (nI (dp))) (C := RX1) (T := TX1) (N := 13) hx hb hts i_X1_prepareLast_X1 hown hK hW.1 0 rfl rfl 10 (by decide) (hts (.fieldLink RX1 58 "TreeHashes$Hasher" "depth" "I") f_X1_prepareLast_0) (fun _ h9 => h9) rfl dX1_prepareLast_6 ?_
  refine lv_iconst (v := nI (1)) hx hb dX1_prepareLast_9 (by decide) ?_
  refine lv_isub hx hb dX1_prepareLast_10 ?_
  refine lv_istore_n (lv' := [(1, .int ((nI (dp)) - (nI (1)))), (0, .ref h0)]) hx hb dX1_prepareLast_11 rfl hl (by decide) rfl (fun ls hl => ?_)
  have loop12 : ∀ (nF : Nat) (d : Nat) (chx : Nat → Int32) (blx : Nat → Int32) (cx : Int64) (lx : Int32) (fx : Int32) (vx : Nat → Int32) (ax : Nat) (ay : Nat) (wx : Nat → Int32) (nx : Nat → Int32), d < nF → (d ≤ dp) → (upN kf bs SS d (chx, blx, cx, lx, fx) = (upN kf bs SS dp (cf, bf, lN (fc + cl), nI (ib), (bs + (nI (fst0 bk))) + (nI (2))))) → ∀ (H : Heap) (locs : List Loc), Wd D A s [(h0, .inr (1, [.ref m0, .ref qk, .ref qs, .ref qc, .ref qb, .int (md), .int (bs), .int (nI (fc)), .int (nI (tk)), .int (nI (cl)), .int (nI (dp)), .int (nI (bk)), .int (nI (ib))])), (qk, .inl (cy 0, 8, .inl (kf))), (qs, .inl (cy 0, 40, .inl (sf))), (qc, .inl (cy 0, 8, .inl (cf))), (qb, .inl (cy 0, 16, .inl (bf))), (m0, .inr (2, [.ref mc, .ref mb, .long (cx), .int (lx), .int (fx), .ref mv, .ref ax, .ref ay])), (mc, .inl (cy 0, 8, .inl (chx))), (mb, .inl (cy 0, 16, .inl (blx))), (mv, .inl (cy 0, 16, .inl (vx))), (ax, .inl (cy 0, 16, .inl (wx))), (ay, .inl (cy 0, 16, .inl (nx)))] H locs → ∀ ls : Array Slot, lv_has ls 2 [(0, .ref h0), (1, .int ((nI (d)) - (nI (1))))] → W p l e ({ frames := 2, cells := 0, slots := 0, locals := 52 }) s m args below meth c H locs 0 0 Q (F0 m 12 ls []) := by
    intro nF
    induction nF with
    | zero => intro d chx blx cx lx fx vx ax ay wx nx hf; exact absurd hf (Nat.not_lt_zero _)
    | succ nF ih =>
      intro d chx blx cx lx fx vx ax ay wx nx hf hle hR H locs hW ls hl
      refine lv_iload_n hx hb dX1_prepareLast_12 rfl (lv_at hl 1 rfl) ?_
      refine lv_if_lt (tgt := 52) hx hb dX1_prepareLast_13 (by decide) (fun h13 => ?_) (fun h13 => ?_)
      · skip
        have e9 : d = 0 := sub1_neg (by omega) h13
        rw [e9] at hR
        have hR : (chx, blx, cx, lx, fx) = (upN kf bs SS dp (cf, bf, lN (fc + cl), nI (ib), (bs + (nI (fst0 bk))) + (nI (2)))) := hR
        exact eV hQ hx hb hr hlocks hK hW (vx, ax, ay, wx, nx) (trivial) (by simp only [← hR]) dX1_prepareLast_52
      · skip
        have hd1 := sub1_pos h13
        rw [pk_sub (show 1 ≤ d by omega)] at hl
        refine lv_aload_n hx hb dX1_prepareLast_16 rfl (lv_at hl 0 rfl) ?_
        refine va_get (D := D) (ci := 1) (v := .ref m0) (C := RX1) (T := TX1) (N := 13) hx hb hts i_X1_prepareLast_X1 hown hK hW.1 0 rfl rfl 0 (by decide) (hts (.fieldLink RX1 14 "TreeHashes$Hasher" "mix" "LTreeHashes$Mix;") f_X1_prepareLast_2) (fun _ h9 => h9) rfl dX1_prepareLast_17 ?_
        refine kVv (As := []) (rest := []) S0 hK hst hA hW [5, 6, 7, 8, 9, 10] (fun sz => c_X2_run l D cy t m0 mc mb mv ax ay cx lx fx chx blx vx wx nx  sz) rfl (by decide) (cwV 0 hts gX1_prepareLast_X2_run rfl rfl rfl (by decide +kernel) ⟨Nat.le_of_ble_eq_true rfl, Nat.le_of_ble_eq_true rfl⟩) (fun ⟨_, _, _, _⟩ => rfl) 0 2 rfl rfl rfl hl.1 rfl (Nat.le_of_ble_eq_true rfl) dX1_prepareLast_20 ⟨Nat.le_of_ble_eq_true rfl, Nat.le_of_ble_eq_true rfl⟩ (fun u20 H locs p20 hW => ?_)
        obtain ⟨aw2_20, an2_20, w2_20, nw2_20⟩ := u20
        have hW : Wd D A s [(h0, .inr (1, [.ref m0, .ref qk, .ref qs, .ref qc, .ref qb, .int (md), .int (bs), .int (nI (fc)), .int (nI (tk)), .int (nI (cl)), .int (nI (dp)), .int (nI (bk)), .int (nI (ib))])), (qk, .inl (cy 0, 8, .inl (kf))), (qs, .inl (cy 0, 40, .inl (sf))), (qc, .inl (cy 0, 8, .inl (cf))), (qb, .inl (cy 0, 16, .inl (bf))), (m0, .inr (2, [.ref mc, .ref mb, .long (cx), .int (lx), .int (fx), .ref mv, .ref aw2_20, .ref an2_20])), (mc, .inl (cy 0, 8, .inl (chx))), (mb, .inl (cy 0, 16, .inl (blx))), (mv, .inl (cy 0, 16, .inl (mixV chx blx cx lx fx))), (aw2_20, .inl (cy 0, 16, .inl (w2_20))), (an2_20, .inl (cy 0, 16, .inl (nw2_20)))] H locs := hW
        refine lv_aload_n hx hb dX1_prepareLast_23 rfl (lv_at hl 0 rfl) ?_
        refine va_get (D := D) (ci := 1) (v := .ref m0) (C := RX1) (T := TX1) (N := 13) hx hb hts i_X1_prepareLast_X1 hown hK hW.1 0 rfl rfl 0 (by decide) (hts (.fieldLink RX1 14 "TreeHashes$Hasher" "mix" "LTreeHashes$Mix;") f_X1_prepareLast_2) (fun _ h9 => h9) rfl dX1_prepareLast_24 ?_
        refine lv_aload_n hx hb dX1_prepareLast_27 rfl (lv_at hl 0 rfl) ?_
        refine va_get (D := D) (ci := 1) (v := .ref qs) (C := RX1) (T := TX1) (N := 13) hx hb hts i_X1_prepareLast_X1 hown hK hW.1 0 rfl rfl 2 (by decide) (hts (.fieldLink RX1 22 "TreeHashes$Hasher" "stack" "[I") f_X1_prepareLast_3) (fun _ h9 => h9) rfl dX1_prepareLast_28 ?_
        refine lv_iload_n hx hb dX1_prepareLast_31 rfl (lv_at hl 1 rfl) ?_
        refine lv_bipush (v := nI (8)) hx hb dX1_prepareLast_32 (by decide) ?_
        refine lv_imul hx hb dX1_prepareLast_34 ?_
        refine tI (pk_mul _ _) ?_
        refine lv_aload_n hx hb dX1_prepareLast_35 rfl (lv_at hl 0 rfl) ?_
        refine va_get (D := D) (ci := 1) (v := .ref qk) (C := RX1) (T := TX1) (N := 13) hx hb hts i_X1_prepareLast_X1 hown hK hW.1 0 rfl rfl 1 (by decide) (hts (.fieldLink RX1 18 "TreeHashes$Hasher" "key" "[I") f_X1_prepareLast_4) (fun _ h9 => h9) rfl dX1_prepareLast_36 ?_
        refine lv_aload_n hx hb dX1_prepareLast_39 rfl (lv_at hl 0 rfl) ?_
        refine va_get (D := D) (ci := 1) (v := .int (bs)) (C := RX1) (T := TX1) (N := 13) hx hb hts i_X1_prepareLast_X1 hown hK hW.1 0 rfl rfl 6 (by decide) (hts (.fieldLink RX1 46 "TreeHashes$Hasher" "base" "I") f_X1_prepareLast_5) (fun _ h9 => h9) rfl dX1_prepareLast_40 ?_
        refine kVv (As := [.ref qs, .int (nI ((d - 1) * 8)), .ref qk, .int (bs)]) (rest := []) S0 hK hst hA hW [5, 6, 7, 8, 2, 1] (fun sz => c_X2_joinBehind l D cy t m0 mc mb mv aw2_20 an2_20 cx lx fx chx blx (mixV chx blx cx lx fx) qs 40 sf ((d - 1) * 8) qk kf bs (by omega) (by omega) sz) rfl (by decide) (cwV 4 hts gX1_prepareLast_X2_joinBehind rfl rfl rfl (by decide +kernel) ⟨Nat.le_of_ble_eq_true rfl, Nat.le_of_ble_eq_true rfl⟩) (fun _ => rfl) 0 2 rfl rfl rfl hl.1 rfl (Nat.le_of_ble_eq_true rfl) dX1_prepareLast_43 ⟨Nat.le_of_ble_eq_true rfl, Nat.le_of_ble_eq_true rfl⟩ (fun u43 H locs p43 hW => ?_)
        have hW : Wd D A s [(h0, .inr (1, [.ref m0, .ref qk, .ref qs, .ref qc, .ref qb, .int (md), .int (bs), .int (nI (fc)), .int (nI (tk)), .int (nI (cl)), .int (nI (dp)), .int (nI (bk)), .int (nI (ib))])), (qk, .inl (cy 0, 8, .inl (kf))), (qs, .inl (cy 0, 40, .inl (sf))), (qc, .inl (cy 0, 8, .inl (cf))), (qb, .inl (cy 0, 16, .inl (bf))), (m0, .inr (2, [.ref mc, .ref mb, .long (lN 0), .int (nI (64)), .int (bs + (nI (4))), .ref mv, .ref aw2_20, .ref an2_20])), (mc, .inl (cy 0, 8, .inl (kf))), (mb, .inl (cy 0, 16, .inl (jn (fun k => sf (((d - 1) * 8) + k)) (mixV chx blx cx lx fx)))), (mv, .inl (cy 0, 16, .inl ((mixV chx blx cx lx fx)))), (aw2_20, .inl (cy 0, 16, .inl (w2_20))), (an2_20, .inl (cy 0, 16, .inl (nw2_20)))] H locs := hW
        have hW := Wd.ext hW 7 rfl (jn (SS (d - 1)) (mixV chx blx cx lx fx)) (jn_ext (fun k hk => hSk (d - 1) (by omega) k hk) (fun _ _ => rfl))
        have hW : Wd D A s [(h0, .inr (1, [.ref m0, .ref qk, .ref qs, .ref qc, .ref qb, .int (md), .int (bs), .int (nI (fc)), .int (nI (tk)), .int (nI (cl)), .int (nI (dp)), .int (nI (bk)), .int (nI (ib))])), (qk, .inl (cy 0, 8, .inl (kf))), (qs, .inl (cy 0, 40, .inl (sf))), (qc, .inl (cy 0, 8, .inl (cf))), (qb, .inl (cy 0, 16, .inl (bf))), (m0, .inr (2, [.ref mc, .ref mb, .long (lN 0), .int (nI (64)), .int (bs + (nI (4))), .ref mv, .ref aw2_20, .ref an2_20])), (mc, .inl (cy 0, 8, .inl (kf))), (mb, .inl (cy 0, 16, .inl (jn (SS (d - 1)) (mixV chx blx cx lx fx)))), (mv, .inl (cy 0, 16, .inl ((mixV chx blx cx lx fx)))), (aw2_20, .inl (cy 0, 16, .inl (w2_20))), (an2_20, .inl (cy 0, 16, .inl (nw2_20)))] H locs := hW
        refine lv_iinc (v := (nI (d - 1)) - (nI (1))) (lv' := [(1, .int ((nI (d - 1)) - (nI (1)))), (0, .ref h0)]) hx hb dX1_prepareLast_46 hl (k := 1) rfl (dec1 _) (by decide) rfl (fun ls hl => ?_)
        refine lv_goto (tgt := 12) hx hb dX1_prepareLast_49 (by decide) ?_
        exact ih (d - 1) kf (jn (SS (d - 1)) (mixV chx blx cx lx fx)) (lN 0) (nI (64)) (bs + (nI (4))) ((mixV chx blx cx lx fx)) aw2_20 an2_20 w2_20 nw2_20 (by omega) (by omega) (by rw [← hR, upN_s hd1]; rfl) _ _ hW _ (lv_sub hl [1, 0] rfl)
  exact loop12 _ dp cf bf (lN (fc + cl)) (nI (ib)) ((bs + (nI (fst0 bk))) + (nI (2))) v aw an w nw (Nat.lt_succ_self _) (Nat.le_refl _) (rfl) _ _ hW _ (lv_sub hl [1, 0] rfl)

theorem f_X1_absorbByte_0 : Cond.fieldLink RX1 67 "TreeHashes$Hasher" "inBlock" "I" ∈ wsX1_absorbByte := by decide +kernel
theorem i_X1_absorbByte_X1 : ∀ w ∈ wsX10, w ∈ wsX1_absorbByte := by decide +kernel
theorem f_X1_absorbByte_2 : Cond.fieldLink RX1 28 "TreeHashes$Hasher" "block" "[I" ∈ wsX1_absorbByte := by decide +kernel
theorem f_X1_absorbByte_3 : Cond.fieldLink RX1 52 "TreeHashes$Hasher" "taken" "I" ∈ wsX1_absorbByte := by decide +kernel
theorem f_X1_absorbByte_4 : Cond.fieldLink RX1 64 "TreeHashes$Hasher" "blocks" "I" ∈ wsX1_absorbByte := by decide +kernel
set_option maxHeartbeats 4000000 in
set_option maxRecDepth 100000 in
theorem c_X1_absorbByte (l : Launch) (D : va_G) (cy : Nat → ClassId) (t : Nat × Nat) (m0 : Nat) (mc : Nat) (mb : Nat) (mv : Nat) (aw : Nat) (an : Nat) (ct : Int64) (ln : Int32) (fl : Int32) (h0 : Nat) (qk : Nat) (qs : Nat) (qc : Nat) (qb : Nat) (md : Int32) (bs : Int32) (fc : Nat) (nt : Nat) (kf : Nat → Int32) (sf : Nat → Int32) (g : Nat → Int32) (ch : Nat → Int32) (bl : Nat → Int32) (v : Nat → Int32) (w : Nat → Int32) (nw : Nat → Int32) (b : Int32) (ht : nt < 40000) (hfc : fc ≤ 1000) (hSk : SKr sf (skS kf bs g fc (clo nt)) (hdp nt)) (hg : g nt = b &&& nI 255) (sz : Nat) : Met l yX1_absorbByte wsX1_absorbByte ({ frames := 3, cells := 0, slots := 0, locals := 73 }) (PcW D cy t [(h0, .inr (1, [.ref m0, .ref qk, .ref qs, .ref qc, .ref qb, .int (md), .int (bs), .int (nI (fc)), .int (nI (nt)), .int (nI (clo nt)), .int (nI (hdp nt)), .int (nI (hbk nt)), .int (nI (hib nt))])), (qk, .inl (cy 0, 8, .inl (kf))), (qs, .inl (cy 0, 40, .inl (sf))), (qc, .inl (cy 0, 8, .inl (hcf kf bs g fc nt))), (qb, .inl (cy 0, 16, .inl (hbf g nt))), (m0, .inr (2, [.ref mc, .ref mb, .long (ct), .int (ln), .int (fl), .ref mv, .ref aw, .ref an])), (mc, .inl (cy 0, 8, .inl (ch))), (mb, .inl (cy 0, 16, .inl (bl))), (mv, .inl (cy 0, 16, .inl (v))), (aw, .inl (cy 0, 16, .inl (w))), (an, .inl (cy 0, 16, .inl (nw)))] [.ref h0, .int (b)] sz) (QvA D cy (fun u : (Nat → Int32) × (Nat → Int32) × (Nat → Int32) × (Int64) × (Int32) × (Int32) × (Nat → Int32) × (Nat) × (Nat) × (Nat → Int32) × (Nat → Int32) => match u with | (sf2, ch2, bl2, ct2, ln2, fl2, v2, aw2, an2, w2, nw2) => (SKr sf2 (skS kf bs g fc (clo (nt + 1))) (hdp (nt + 1)))) (fun u : (Nat → Int32) × (Nat → Int32) × (Nat → Int32) × (Int64) × (Int32) × (Int32) × (Nat → Int32) × (Nat) × (Nat) × (Nat → Int32) × (Nat → Int32) => match u with | (sf2, ch2, bl2, ct2, ln2, fl2, v2, aw2, an2, w2, nw2) => [(h0, .inr (1, [.ref m0, .ref qk, .ref qs, .ref qc, .ref qb, .int (md), .int (bs), .int (nI (fc)), .int (nI (nt + 1)), .int (nI (clo (nt + 1))), .int (nI (hdp (nt + 1))), .int (nI (hbk (nt + 1))), .int (nI (hib (nt + 1)))])), (qk, .inl (cy 0, 8, .inl (kf))), (qs, .inl (cy 0, 40, .inl (sf2))), (qc, .inl (cy 0, 8, .inl (hcf kf bs g fc (nt + 1)))), (qb, .inl (cy 0, 16, .inl (hbf g (nt + 1)))), (m0, .inr (2, [.ref mc, .ref mb, .long (ct2), .int (ln2), .int (fl2), .ref mv, .ref aw2, .ref an2])), (mc, .inl (cy 0, 8, .inl (ch2))), (mb, .inl (cy 0, 16, .inl (bl2))), (mv, .inl (cy 0, 16, .inl (v2))), (aw2, .inl (cy 0, 16, .inl (w2))), (an2, .inl (cy 0, 16, .inl (nw2)))]) (va_A [(h0, .inr (1, [.ref m0, .ref qk, .ref qs, .ref qc, .ref qb, .int (md), .int (bs), .int (nI (fc)), .int (nI (nt)), .int (nI (clo nt)), .int (nI (hdp nt)), .int (nI (hbk nt)), .int (nI (hib nt))])), (qk, .inl (cy 0, 8, .inl (kf))), (qs, .inl (cy 0, 40, .inl (sf))), (qc, .inl (cy 0, 8, .inl (hcf kf bs g fc nt))), (qb, .inl (cy 0, 16, .inl (hbf g nt))), (m0, .inr (2, [.ref mc, .ref mb, .long (ct), .int (ln), .int (fl), .ref mv, .ref aw, .ref an])), (mc, .inl (cy 0, 8, .inl (ch))), (mb, .inl (cy 0, 16, .inl (bl))), (mv, .inl (cy 0, 16, .inl (v))), (aw, .inl (cy 0, 16, .inl (w))), (an, .inl (cy 0, 16, .inl (nw)))] sz)) 0 0 (va_A [(h0, .inr (1, [.ref m0, .ref qk, .ref qs, .ref qc, .ref qb, .int (md), .int (bs), .int (nI (fc)), .int (nI (nt)), .int (nI (clo nt)), .int (nI (hdp nt)), .int (nI (hbk nt)), .int (nI (hib nt))])), (qk, .inl (cy 0, 8, .inl (kf))), (qs, .inl (cy 0, 40, .inl (sf))), (qc, .inl (cy 0, 8, .inl (hcf kf bs g fc nt))), (qb, .inl (cy 0, 16, .inl (hbf g nt))), (m0, .inr (2, [.ref mc, .ref mb, .long (ct), .int (ln), .int (fl), .ref mv, .ref aw, .ref an])), (mc, .inl (cy 0, 8, .inl (ch))), (mb, .inl (cy 0, 16, .inl (bl))), (mv, .inl (cy 0, 16, .inl (v))), (aw, .inl (cy 0, 16, .inl (w))), (an, .inl (cy 0, 16, .inl (nw)))] sz) := by
  refine M_ofW (cc := cX1_absorbByte) (maxL := 2) (ret := none) (by decide) rfl (Nat.le_of_ble_eq_true rfl) ?_
  intro p e s m below meth c A ls args Q hQ S0 hr hlocks hnm hK hst hA hW hl
  have hx := S0.1; have hb := S0.2.1; have hml := S0.2.2.1; have hown := S0.2.2.2.1; have hts := S0.2.2.2.2
  have hl : lv_has ls 2 [(0, .ref h0), (1, .int (b))] := hl
  have hnn := h_nums nt
  have hc9 : clo nt ≤ 39 := by unfold clo; omega
  refine lv_aload_n hx hb dX1_absorbByte_0 rfl (lv_at hl 0 rfl) ?_
  refine va_get (D := D) (ci := 1) (v := .int (nI (hib nt))) (C := RX1) (T := TX1) (N := 13) hx hb hts i_X1_absorbByte_X1 hown hK hW.1 0 rfl rfl 12 (by decide) (hts (.fieldLink RX1 67 "TreeHashes$Hasher" "inBlock" "I") f_X1_absorbByte_0) (fun _ h9 => h9) rfl dX1_absorbByte_1 ?_
  refine lv_bipush (v := nI (64)) hx hb dX1_absorbByte_4 (by decide) ?_
  refine iNe (a := hib nt) (b := 64) (tgt := 29) hx hb dX1_absorbByte_6 (by decide) (by omega) (by omega) (fun h6 => ?_) (fun h6 => ?_)
  · skip
    obtain ⟨e1, e2, e3⟩ := h_a h6
    have e4 := h_a4 (K := kf) (bs := bs) (g := g) (fc := fc) h6
    have e5 := h_a5 (g := g) h6
    refine lv_aload_n hx hb dX1_absorbByte_29 rfl (lv_at hl 0 rfl) ?_
    refine va_get (D := D) (ci := 1) (v := .ref qb) (C := RX1) (T := TX1) (N := 13) hx hb hts i_X1_absorbByte_X1 hown hK hW.1 0 rfl rfl 4 (by decide) (hts (.fieldLink RX1 28 "TreeHashes$Hasher" "block" "[I") f_X1_absorbByte_2) (fun _ h9 => h9) rfl dX1_absorbByte_30 ?_
    refine lv_aload_n hx hb dX1_absorbByte_33 rfl (lv_at hl 0 rfl) ?_
    refine va_get (D := D) (ci := 1) (v := .int (nI (hib nt))) (C := RX1) (T := TX1) (N := 13) hx hb hts i_X1_absorbByte_X1 hown hK hW.1 0 rfl rfl 12 (by decide) (hts (.fieldLink RX1 67 "TreeHashes$Hasher" "inBlock" "I") f_X1_absorbByte_0) (fun _ h9 => h9) rfl dX1_absorbByte_34 ?_
    refine lv_iconst (v := nI (2)) hx hb dX1_absorbByte_37 (by decide) ?_
    refine lv_ishr hx hb dX1_absorbByte_38 ?_
    refine tI (x' := nI ((hib nt) / 2 ^ 2)) (pk_shrN (by omega) _ 2 (by decide)) ?_
    refine lv_dup2_11 hx hb dX1_absorbByte_39 rfl rfl ?_
    refine rI hx hb hK hW 4 rfl (k := (hib nt) / 2 ^ 2) (by omega) (by omega) dX1_absorbByte_40 ?_
    refine lv_iload_n hx hb dX1_absorbByte_41 rfl (lv_at hl 1 rfl) ?_
    refine lv_sipush (v := nI (255)) hx hb dX1_absorbByte_42 (by decide) ?_
    refine lv_iand hx hb dX1_absorbByte_45 ?_
    refine lv_bipush (v := nI (8)) hx hb dX1_absorbByte_46 (by decide) ?_
    refine lv_aload_n hx hb dX1_absorbByte_48 rfl (lv_at hl 0 rfl) ?_
    refine va_get (D := D) (ci := 1) (v := .int (nI (hib nt))) (C := RX1) (T := TX1) (N := 13) hx hb hts i_X1_absorbByte_X1 hown hK hW.1 0 rfl rfl 12 (by decide) (hts (.fieldLink RX1 67 "TreeHashes$Hasher" "inBlock" "I") f_X1_absorbByte_0) (fun _ h9 => h9) rfl dX1_absorbByte_49 ?_
    refine lv_iconst (v := nI (3)) hx hb dX1_absorbByte_52 (by decide) ?_
    refine lv_iand hx hb dX1_absorbByte_53 ?_
    refine tI (x' := nI ((hib nt) % 2 ^ 2)) (pk_andN (by omega) 2 (by decide)) ?_
    refine lv_imul hx hb dX1_absorbByte_54 ?_
    refine tI (pk_mul _ _) ?_
    refine lv_ishl hx hb dX1_absorbByte_55 ?_
    refine lv_ior hx hb dX1_absorbByte_56 ?_
    refine wI hx hb hK hW 4 rfl (k := (hib nt) / 2 ^ 2) (by omega) (by omega) dX1_absorbByte_57 (fun H locs hW => ?_)
    have hW : Wd D A s [(h0, .inr (1, [.ref m0, .ref qk, .ref qs, .ref qc, .ref qb, .int (md), .int (bs), .int (nI (fc)), .int (nI (nt)), .int (nI (clo nt)), .int (nI (hdp nt)), .int (nI (hbk nt)), .int (nI (hib nt))])), (qk, .inl (cy 0, 8, .inl (kf))), (qs, .inl (cy 0, 40, .inl (sf))), (qc, .inl (cy 0, 8, .inl (hcf kf bs g fc nt))), (qb, .inl (cy 0, 16, .inl (upd (hbf g nt) ((hib nt) / 2 ^ 2) (((hbf g nt) ((hib nt) / 2 ^ 2)) ||| ((b &&& (nI (255))) <<< ((nI (8 * ((hib nt) % 2 ^ 2))) &&& 31)))))), (m0, .inr (2, [.ref mc, .ref mb, .long (ct), .int (ln), .int (fl), .ref mv, .ref aw, .ref an])), (mc, .inl (cy 0, 8, .inl (ch))), (mb, .inl (cy 0, 16, .inl (bl))), (mv, .inl (cy 0, 16, .inl (v))), (aw, .inl (cy 0, 16, .inl (w))), (an, .inl (cy 0, 16, .inl (nw)))] H locs := hW
    refine lv_aload_n hx hb dX1_absorbByte_58 rfl (lv_at hl 0 rfl) ?_
    refine lv_dup hx hb dX1_absorbByte_59 rfl ?_
    refine va_get (D := D) (ci := 1) (v := .int (nI (hib nt))) (C := RX1) (T := TX1) (N := 13) hx hb hts i_X1_absorbByte_X1 hown hK hW.1 0 rfl rfl 12 (by decide) (hts (.fieldLink RX1 67 "TreeHashes$Hasher" "inBlock" "I") f_X1_absorbByte_0) (fun _ h9 => h9) rfl dX1_absorbByte_60 ?_
    refine lv_iconst (v := nI (1)) hx hb dX1_absorbByte_63 (by decide) ?_
    refine lv_iadd hx hb dX1_absorbByte_64 ?_
    refine tI (nI_add _ _) ?_
    refine va_put (D := D) (ci := 1) (v := .int (nI ((hib nt) + 1))) (ty := .int) (C := RX1) (T := TX1) (N := 13) hx hb hts i_X1_absorbByte_X1 tyX1 tyX1_ok nmX1 hown hK hW.1 hW.2.1 hW.2.2 0 rfl rfl 12 (by decide) (hts (.fieldLink RX1 67 "TreeHashes$Hasher" "inBlock" "I") f_X1_absorbByte_0) (fun _ h9 => h9) rfl (by decide +kernel) rfl rfl (Nat.le_of_ble_eq_true rfl) dX1_absorbByte_65 (fun H locs hP hD hS => ?_)
    have hW : Wd D A s [(h0, .inr (1, [.ref m0, .ref qk, .ref qs, .ref qc, .ref qb, .int (md), .int (bs), .int (nI (fc)), .int (nI (nt)), .int (nI (clo nt)), .int (nI (hdp nt)), .int (nI (hbk nt)), .int (nI ((hib nt) + 1))])), (qk, .inl (cy 0, 8, .inl (kf))), (qs, .inl (cy 0, 40, .inl (sf))), (qc, .inl (cy 0, 8, .inl (hcf kf bs g fc nt))), (qb, .inl (cy 0, 16, .inl (upd (hbf g nt) ((hib nt) / 2 ^ 2) (((hbf g nt) ((hib nt) / 2 ^ 2)) ||| ((b &&& (nI (255))) <<< ((nI (8 * ((hib nt) % 2 ^ 2))) &&& 31)))))), (m0, .inr (2, [.ref mc, .ref mb, .long (ct), .int (ln), .int (fl), .ref mv, .ref aw, .ref an])), (mc, .inl (cy 0, 8, .inl (ch))), (mb, .inl (cy 0, 16, .inl (bl))), (mv, .inl (cy 0, 16, .inl (v))), (aw, .inl (cy 0, 16, .inl (w))), (an, .inl (cy 0, 16, .inl (nw)))] H locs := ⟨hP, hD, hS⟩
    refine lv_aload_n hx hb dX1_absorbByte_68 rfl (lv_at hl 0 rfl) ?_
    refine lv_dup hx hb dX1_absorbByte_69 rfl ?_
    refine va_get (D := D) (ci := 1) (v := .int (nI (nt))) (C := RX1) (T := TX1) (N := 13) hx hb hts i_X1_absorbByte_X1 hown hK hW.1 0 rfl rfl 8 (by decide) (hts (.fieldLink RX1 52 "TreeHashes$Hasher" "taken" "I") f_X1_absorbByte_3) (fun _ h9 => h9) rfl dX1_absorbByte_70 ?_
    refine lv_iconst (v := nI (1)) hx hb dX1_absorbByte_73 (by decide) ?_
    refine lv_iadd hx hb dX1_absorbByte_74 ?_
    refine tI (nI_add _ _) ?_
    refine va_put (D := D) (ci := 1) (v := .int (nI (nt + 1))) (ty := .int) (C := RX1) (T := TX1) (N := 13) hx hb hts i_X1_absorbByte_X1 tyX1 tyX1_ok nmX1 hown hK hW.1 hW.2.1 hW.2.2 0 rfl rfl 8 (by decide) (hts (.fieldLink RX1 52 "TreeHashes$Hasher" "taken" "I") f_X1_absorbByte_3) (fun _ h9 => h9) rfl (by decide +kernel) rfl rfl (Nat.le_of_ble_eq_true rfl) dX1_absorbByte_75 (fun H locs hP hD hS => ?_)
    have hW : Wd D A s [(h0, .inr (1, [.ref m0, .ref qk, .ref qs, .ref qc, .ref qb, .int (md), .int (bs), .int (nI (fc)), .int (nI (nt + 1)), .int (nI (clo nt)), .int (nI (hdp nt)), .int (nI (hbk nt)), .int (nI ((hib nt) + 1))])), (qk, .inl (cy 0, 8, .inl (kf))), (qs, .inl (cy 0, 40, .inl (sf))), (qc, .inl (cy 0, 8, .inl (hcf kf bs g fc nt))), (qb, .inl (cy 0, 16, .inl (upd (hbf g nt) ((hib nt) / 2 ^ 2) (((hbf g nt) ((hib nt) / 2 ^ 2)) ||| ((b &&& (nI (255))) <<< ((nI (8 * ((hib nt) % 2 ^ 2))) &&& 31)))))), (m0, .inr (2, [.ref mc, .ref mb, .long (ct), .int (ln), .int (fl), .ref mv, .ref aw, .ref an])), (mc, .inl (cy 0, 8, .inl (ch))), (mb, .inl (cy 0, 16, .inl (bl))), (mv, .inl (cy 0, 16, .inl (v))), (aw, .inl (cy 0, 16, .inl (w))), (an, .inl (cy 0, 16, .inl (nw)))] H locs := ⟨hP, hD, hS⟩
    exact eV hQ hx hb hr hlocks hK hW (sf, ch, bl, ct, ln, fl, v, aw, an, w, nw) (by rw [e1, show hdp (nt + 1) = hdp nt from by unfold hdp; rw [e1]]; exact hSk) (by simp only [e4, e5, hg]; simp only [e1, e2, e3, hdp]) dX1_absorbByte_78
  · skip
    refine lv_aload_n hx hb dX1_absorbByte_9 rfl (lv_at hl 0 rfl) ?_
    refine va_get (D := D) (ci := 1) (v := .int (nI (hbk nt))) (C := RX1) (T := TX1) (N := 13) hx hb hts i_X1_absorbByte_X1 hown hK hW.1 0 rfl rfl 11 (by decide) (hts (.fieldLink RX1 64 "TreeHashes$Hasher" "blocks" "I") f_X1_absorbByte_4) (fun _ h9 => h9) rfl dX1_absorbByte_10 ?_
    refine lv_bipush (v := nI (15)) hx hb dX1_absorbByte_13 (by decide) ?_
    refine iNe (a := hbk nt) (b := 15) (tgt := 25) hx hb dX1_absorbByte_15 (by decide) (by omega) (by omega) (fun h15 => ?_) (fun h15 => ?_)
    · skip
      obtain ⟨e1, e2, e3⟩ := h_b h6 h15
      have e4 := h_b4 (K := kf) (bs := bs) (g := g) (fc := fc) h6 h15
      have e5 := h_b5 (g := g) e3
      refine lv_aload_n hx hb dX1_absorbByte_25 rfl (lv_at hl 0 rfl) ?_
      refine kVv (As := []) (rest := []) S0 hK hst hA hW [0, 3, 4, 5, 6, 7, 8, 9, 10] (fun sz => c_X1_closeBlock l D cy t m0 mc mb mv aw an ct ln fl h0 qk qs qc qb md bs fc nt (clo nt) (hdp nt) (hbk nt) (hib nt) ch bl v w nw (hcf kf bs g fc nt) (hbf g nt) (by omega) (by omega) sz) rfl (by decide) (cwV 0 hts gX1_absorbByte_X1_closeBlock rfl rfl rfl (by decide +kernel) ⟨Nat.le_of_ble_eq_true rfl, Nat.le_of_ble_eq_true rfl⟩) (fun ⟨_, _, _, _⟩ => rfl) 0 1 rfl rfl rfl hl.1 rfl (Nat.le_of_ble_eq_true rfl) dX1_absorbByte_26 ⟨Nat.le_of_ble_eq_true rfl, Nat.le_of_ble_eq_true rfl⟩ (fun u26 H locs p26 hW => ?_)
      obtain ⟨aw2_26, an2_26, w2_26, nw2_26⟩ := u26
      have hW : Wd D A s [(h0, .inr (1, [.ref m0, .ref qk, .ref qs, .ref qc, .ref qb, .int (md), .int (bs), .int (nI (fc)), .int (nI (nt)), .int (nI ((clo nt))), .int (nI ((hdp nt))), .int (nI ((hbk nt) + 1)), .int (nI (0))])), (qk, .inl (cy 0, 8, .inl (kf))), (qs, .inl (cy 0, 40, .inl (sf))), (qc, .inl (cy 0, 8, .inl (mixV (hcf kf bs g fc nt) (hbf g nt) (lN (fc + (clo nt))) (nI ((hib nt))) ((bs + (nI (fst0 (hbk nt)))) + (nI (0)))))), (qb, .inl (cy 0, 16, .inl ((fun _ => nI (0))))), (m0, .inr (2, [.ref mc, .ref mb, .long (lN (fc + (clo nt))), .int (nI ((hib nt))), .int ((bs + (nI (fst0 (hbk nt)))) + (nI (0))), .ref mv, .ref aw2_26, .ref an2_26])), (mc, .inl (cy 0, 8, .inl ((hcf kf bs g fc nt)))), (mb, .inl (cy 0, 16, .inl ((hbf g nt)))), (mv, .inl (cy 0, 16, .inl (mixV (hcf kf bs g fc nt) (hbf g nt) (lN (fc + (clo nt))) (nI ((hib nt))) ((bs + (nI (fst0 (hbk nt)))) + (nI (0)))))), (aw2_26, .inl (cy 0, 16, .inl (w2_26))), (an2_26, .inl (cy 0, 16, .inl (nw2_26)))] H locs := hW
      refine lv_aload_n hx hb dX1_absorbByte_29 rfl (lv_at hl 0 rfl) ?_
      refine va_get (D := D) (ci := 1) (v := .ref qb) (C := RX1) (T := TX1) (N := 13) hx hb hts i_X1_absorbByte_X1 hown hK hW.1 0 rfl rfl 4 (by decide) (hts (.fieldLink RX1 28 "TreeHashes$Hasher" "block" "[I") f_X1_absorbByte_2) (fun _ h9 => h9) rfl dX1_absorbByte_30 ?_
      refine lv_aload_n hx hb dX1_absorbByte_33 rfl (lv_at hl 0 rfl) ?_
      refine va_get (D := D) (ci := 1) (v := .int (nI (0))) (C := RX1) (T := TX1) (N := 13) hx hb hts i_X1_absorbByte_X1 hown hK hW.1 0 rfl rfl 12 (by decide) (hts (.fieldLink RX1 67 "TreeHashes$Hasher" "inBlock" "I") f_X1_absorbByte_0) (fun _ h9 => h9) rfl dX1_absorbByte_34 ?_
      refine lv_iconst (v := nI (2)) hx hb dX1_absorbByte_37 (by decide) ?_
      refine lv_ishr hx hb dX1_absorbByte_38 ?_
      refine tI (x' := nI (0 / 2 ^ 2)) (pk_shrN (by omega) _ 2 (by decide)) ?_
      refine lv_dup2_11 hx hb dX1_absorbByte_39 rfl rfl ?_
      refine rI hx hb hK hW 4 rfl (k := 0 / 2 ^ 2) (by omega) (by omega) dX1_absorbByte_40 ?_
      refine lv_iload_n hx hb dX1_absorbByte_41 rfl (lv_at hl 1 rfl) ?_
      refine lv_sipush (v := nI (255)) hx hb dX1_absorbByte_42 (by decide) ?_
      refine lv_iand hx hb dX1_absorbByte_45 ?_
      refine lv_bipush (v := nI (8)) hx hb dX1_absorbByte_46 (by decide) ?_
      refine lv_aload_n hx hb dX1_absorbByte_48 rfl (lv_at hl 0 rfl) ?_
      refine va_get (D := D) (ci := 1) (v := .int (nI (0))) (C := RX1) (T := TX1) (N := 13) hx hb hts i_X1_absorbByte_X1 hown hK hW.1 0 rfl rfl 12 (by decide) (hts (.fieldLink RX1 67 "TreeHashes$Hasher" "inBlock" "I") f_X1_absorbByte_0) (fun _ h9 => h9) rfl dX1_absorbByte_49 ?_
      refine lv_iconst (v := nI (3)) hx hb dX1_absorbByte_52 (by decide) ?_
      refine lv_iand hx hb dX1_absorbByte_53 ?_
      refine tI (x' := nI (0 % 2 ^ 2)) (pk_andN (by omega) 2 (by decide)) ?_
      refine lv_imul hx hb dX1_absorbByte_54 ?_
      refine tI (pk_mul _ _) ?_
      refine lv_ishl hx hb dX1_absorbByte_55 ?_
      refine lv_ior hx hb dX1_absorbByte_56 ?_
      refine wI hx hb hK hW 4 rfl (k := 0 / 2 ^ 2) (by omega) (by omega) dX1_absorbByte_57 (fun H locs hW => ?_)
      have hW : Wd D A s [(h0, .inr (1, [.ref m0, .ref qk, .ref qs, .ref qc, .ref qb, .int (md), .int (bs), .int (nI (fc)), .int (nI (nt)), .int (nI ((clo nt))), .int (nI ((hdp nt))), .int (nI ((hbk nt) + 1)), .int (nI (0))])), (qk, .inl (cy 0, 8, .inl (kf))), (qs, .inl (cy 0, 40, .inl (sf))), (qc, .inl (cy 0, 8, .inl (mixV (hcf kf bs g fc nt) (hbf g nt) (lN (fc + (clo nt))) (nI ((hib nt))) ((bs + (nI (fst0 (hbk nt)))) + (nI (0)))))), (qb, .inl (cy 0, 16, .inl (upd ((fun _ => nI (0))) (0 / 2 ^ 2) ((((fun _ => nI (0))) (0 / 2 ^ 2)) ||| ((b &&& (nI (255))) <<< ((nI (8 * (0 % 2 ^ 2))) &&& 31)))))), (m0, .inr (2, [.ref mc, .ref mb, .long (lN (fc + (clo nt))), .int (nI ((hib nt))), .int ((bs + (nI (fst0 (hbk nt)))) + (nI (0))), .ref mv, .ref aw2_26, .ref an2_26])), (mc, .inl (cy 0, 8, .inl ((hcf kf bs g fc nt)))), (mb, .inl (cy 0, 16, .inl ((hbf g nt)))), (mv, .inl (cy 0, 16, .inl (mixV (hcf kf bs g fc nt) (hbf g nt) (lN (fc + (clo nt))) (nI ((hib nt))) ((bs + (nI (fst0 (hbk nt)))) + (nI (0)))))), (aw2_26, .inl (cy 0, 16, .inl (w2_26))), (an2_26, .inl (cy 0, 16, .inl (nw2_26)))] H locs := hW
      refine lv_aload_n hx hb dX1_absorbByte_58 rfl (lv_at hl 0 rfl) ?_
      refine lv_dup hx hb dX1_absorbByte_59 rfl ?_
      refine va_get (D := D) (ci := 1) (v := .int (nI (0))) (C := RX1) (T := TX1) (N := 13) hx hb hts i_X1_absorbByte_X1 hown hK hW.1 0 rfl rfl 12 (by decide) (hts (.fieldLink RX1 67 "TreeHashes$Hasher" "inBlock" "I") f_X1_absorbByte_0) (fun _ h9 => h9) rfl dX1_absorbByte_60 ?_
      refine lv_iconst (v := nI (1)) hx hb dX1_absorbByte_63 (by decide) ?_
      refine lv_iadd hx hb dX1_absorbByte_64 ?_
      refine tI (nI_add _ _) ?_
      refine va_put (D := D) (ci := 1) (v := .int (nI (0 + 1))) (ty := .int) (C := RX1) (T := TX1) (N := 13) hx hb hts i_X1_absorbByte_X1 tyX1 tyX1_ok nmX1 hown hK hW.1 hW.2.1 hW.2.2 0 rfl rfl 12 (by decide) (hts (.fieldLink RX1 67 "TreeHashes$Hasher" "inBlock" "I") f_X1_absorbByte_0) (fun _ h9 => h9) rfl (by decide +kernel) rfl rfl (Nat.le_of_ble_eq_true rfl) dX1_absorbByte_65 (fun H locs hP hD hS => ?_)
      have hW : Wd D A s [(h0, .inr (1, [.ref m0, .ref qk, .ref qs, .ref qc, .ref qb, .int (md), .int (bs), .int (nI (fc)), .int (nI (nt)), .int (nI ((clo nt))), .int (nI ((hdp nt))), .int (nI ((hbk nt) + 1)), .int (nI (0 + 1))])), (qk, .inl (cy 0, 8, .inl (kf))), (qs, .inl (cy 0, 40, .inl (sf))), (qc, .inl (cy 0, 8, .inl (mixV (hcf kf bs g fc nt) (hbf g nt) (lN (fc + (clo nt))) (nI ((hib nt))) ((bs + (nI (fst0 (hbk nt)))) + (nI (0)))))), (qb, .inl (cy 0, 16, .inl (upd ((fun _ => nI (0))) (0 / 2 ^ 2) ((((fun _ => nI (0))) (0 / 2 ^ 2)) ||| ((b &&& (nI (255))) <<< ((nI (8 * (0 % 2 ^ 2))) &&& 31)))))), (m0, .inr (2, [.ref mc, .ref mb, .long (lN (fc + (clo nt))), .int (nI ((hib nt))), .int ((bs + (nI (fst0 (hbk nt)))) + (nI (0))), .ref mv, .ref aw2_26, .ref an2_26])), (mc, .inl (cy 0, 8, .inl ((hcf kf bs g fc nt)))), (mb, .inl (cy 0, 16, .inl ((hbf g nt)))), (mv, .inl (cy 0, 16, .inl (mixV (hcf kf bs g fc nt) (hbf g nt) (lN (fc + (clo nt))) (nI ((hib nt))) ((bs + (nI (fst0 (hbk nt)))) + (nI (0)))))), (aw2_26, .inl (cy 0, 16, .inl (w2_26))), (an2_26, .inl (cy 0, 16, .inl (nw2_26)))] H locs := ⟨hP, hD, hS⟩
      refine lv_aload_n hx hb dX1_absorbByte_68 rfl (lv_at hl 0 rfl) ?_
      refine lv_dup hx hb dX1_absorbByte_69 rfl ?_
      refine va_get (D := D) (ci := 1) (v := .int (nI (nt))) (C := RX1) (T := TX1) (N := 13) hx hb hts i_X1_absorbByte_X1 hown hK hW.1 0 rfl rfl 8 (by decide) (hts (.fieldLink RX1 52 "TreeHashes$Hasher" "taken" "I") f_X1_absorbByte_3) (fun _ h9 => h9) rfl dX1_absorbByte_70 ?_
      refine lv_iconst (v := nI (1)) hx hb dX1_absorbByte_73 (by decide) ?_
      refine lv_iadd hx hb dX1_absorbByte_74 ?_
      refine tI (nI_add _ _) ?_
      refine va_put (D := D) (ci := 1) (v := .int (nI (nt + 1))) (ty := .int) (C := RX1) (T := TX1) (N := 13) hx hb hts i_X1_absorbByte_X1 tyX1 tyX1_ok nmX1 hown hK hW.1 hW.2.1 hW.2.2 0 rfl rfl 8 (by decide) (hts (.fieldLink RX1 52 "TreeHashes$Hasher" "taken" "I") f_X1_absorbByte_3) (fun _ h9 => h9) rfl (by decide +kernel) rfl rfl (Nat.le_of_ble_eq_true rfl) dX1_absorbByte_75 (fun H locs hP hD hS => ?_)
      have hW : Wd D A s [(h0, .inr (1, [.ref m0, .ref qk, .ref qs, .ref qc, .ref qb, .int (md), .int (bs), .int (nI (fc)), .int (nI (nt + 1)), .int (nI ((clo nt))), .int (nI ((hdp nt))), .int (nI ((hbk nt) + 1)), .int (nI (0 + 1))])), (qk, .inl (cy 0, 8, .inl (kf))), (qs, .inl (cy 0, 40, .inl (sf))), (qc, .inl (cy 0, 8, .inl (mixV (hcf kf bs g fc nt) (hbf g nt) (lN (fc + (clo nt))) (nI ((hib nt))) ((bs + (nI (fst0 (hbk nt)))) + (nI (0)))))), (qb, .inl (cy 0, 16, .inl (upd ((fun _ => nI (0))) (0 / 2 ^ 2) ((((fun _ => nI (0))) (0 / 2 ^ 2)) ||| ((b &&& (nI (255))) <<< ((nI (8 * (0 % 2 ^ 2))) &&& 31)))))), (m0, .inr (2, [.ref mc, .ref mb, .long (lN (fc + (clo nt))), .int (nI ((hib nt))), .int ((bs + (nI (fst0 (hbk nt)))) + (nI (0))), .ref mv, .ref aw2_26, .ref an2_26])), (mc, .inl (cy 0, 8, .inl ((hcf kf bs g fc nt)))), (mb, .inl (cy 0, 16, .inl ((hbf g nt)))), (mv, .inl (cy 0, 16, .inl (mixV (hcf kf bs g fc nt) (hbf g nt) (lN (fc + (clo nt))) (nI ((hib nt))) ((bs + (nI (fst0 (hbk nt)))) + (nI (0)))))), (aw2_26, .inl (cy 0, 16, .inl (w2_26))), (an2_26, .inl (cy 0, 16, .inl (nw2_26)))] H locs := ⟨hP, hD, hS⟩
      exact eV hQ hx hb hr hlocks hK hW (sf, (hcf kf bs g fc nt), (hbf g nt), lN (fc + (clo nt)), nI ((hib nt)), (bs + (nI (fst0 (hbk nt)))) + (nI (0)), mixV (hcf kf bs g fc nt) (hbf g nt) (lN (fc + (clo nt))) (nI ((hib nt))) ((bs + (nI (fst0 (hbk nt)))) + (nI (0))), aw2_26, an2_26, w2_26, nw2_26) (by rw [e1, show hdp (nt + 1) = hdp nt from by unfold hdp; rw [e1]]; exact hSk) (by simp only [e4, e5, hg]; simp only [e1, e2, e3, hdp]) dX1_absorbByte_78
    · skip
      obtain ⟨e1, e2, e3, e6⟩ := h_c h6 h15
      have e4 := h_c4 (K := kf) (bs := bs) (g := g) (fc := fc) h6 h15
      have e5 := h_b5 (g := g) e3
      obtain ⟨e7, e8⟩ := h_cR (K := kf) (bs := bs) (g := g) (fc := fc) h6 h15 (by omega)
      refine lv_aload_n hx hb dX1_absorbByte_18 rfl (lv_at hl 0 rfl) ?_
      refine kVv (As := []) (rest := []) S0 hK hst hA hW [0, 1, 2, 3, 4, 5, 6, 7, 8, 9, 10] (fun sz => c_X1_closeChunk l D cy t m0 mc mb mv aw an ct ln fl h0 qk qs qc qb md bs fc nt (clo nt) (hdp nt) (hbk nt) (hib nt) ch bl v w nw kf sf (hcf kf bs g fc nt) (hbf g nt) (skS kf bs g fc (clo nt)) (by omega) (by omega) (by omega) (rfl) (hSk) sz) rfl (by decide) (cwV 0 hts gX1_absorbByte_X1_closeChunk rfl rfl rfl (by decide +kernel) ⟨Nat.le_of_ble_eq_true rfl, Nat.le_of_ble_eq_true rfl⟩) (fun ⟨_, _, _, _, _, _, _, _, _, _, _⟩ => rfl) 0 1 rfl rfl rfl hl.1 rfl (Nat.le_of_ble_eq_true rfl) dX1_absorbByte_19 ⟨Nat.le_of_ble_eq_true rfl, Nat.le_of_ble_eq_true rfl⟩ (fun u19 H locs p19 hW => ?_)
      obtain ⟨sf2_19, ch2_19, bl2_19, ct2_19, ln2_19, fl2_19, v2_19, aw2_19, an2_19, w2_19, nw2_19⟩ := u19
      have hW : Wd D A s [(h0, .inr (1, [.ref m0, .ref qk, .ref qs, .ref qc, .ref qb, .int (md), .int (bs), .int (nI (fc)), .int (nI (nt)), .int (nI ((clo nt) + 1)), .int (nI ((mg kf bs (skS kf bs g fc (clo nt)) (hdp nt) ((clo nt) + 1) (mixV (hcf kf bs g fc nt) (hbf g nt) (lN (fc + (clo nt))) (nI ((hib nt))) ((bs + (nI (fst0 (hbk nt)))) + (nI (2))))).1 + 1)), .int (nI (0)), .int (nI (0))])), (qk, .inl (cy 0, 8, .inl (kf))), (qs, .inl (cy 0, 40, .inl (sf2_19))), (qc, .inl (cy 0, 8, .inl (kf))), (qb, .inl (cy 0, 16, .inl ((fun _ => nI (0))))), (m0, .inr (2, [.ref mc, .ref mb, .long (ct2_19), .int (ln2_19), .int (fl2_19), .ref mv, .ref aw2_19, .ref an2_19])), (mc, .inl (cy 0, 8, .inl (ch2_19))), (mb, .inl (cy 0, 16, .inl (bl2_19))), (mv, .inl (cy 0, 16, .inl (v2_19))), (aw2_19, .inl (cy 0, 16, .inl (w2_19))), (an2_19, .inl (cy 0, 16, .inl (nw2_19)))] H locs := hW
      refine lv_goto (tgt := 29) hx hb dX1_absorbByte_22 (by decide) ?_
      refine lv_aload_n hx hb dX1_absorbByte_29 rfl (lv_at hl 0 rfl) ?_
      refine va_get (D := D) (ci := 1) (v := .ref qb) (C := RX1) (T := TX1) (N := 13) hx hb hts i_X1_absorbByte_X1 hown hK hW.1 0 rfl rfl 4 (by decide) (hts (.fieldLink RX1 28 "TreeHashes$Hasher" "block" "[I") f_X1_absorbByte_2) (fun _ h9 => h9) rfl dX1_absorbByte_30 ?_
      refine lv_aload_n hx hb dX1_absorbByte_33 rfl (lv_at hl 0 rfl) ?_
      refine va_get (D := D) (ci := 1) (v := .int (nI (0))) (C := RX1) (T := TX1) (N := 13) hx hb hts i_X1_absorbByte_X1 hown hK hW.1 0 rfl rfl 12 (by decide) (hts (.fieldLink RX1 67 "TreeHashes$Hasher" "inBlock" "I") f_X1_absorbByte_0) (fun _ h9 => h9) rfl dX1_absorbByte_34 ?_
      refine lv_iconst (v := nI (2)) hx hb dX1_absorbByte_37 (by decide) ?_
      refine lv_ishr hx hb dX1_absorbByte_38 ?_
      refine tI (x' := nI (0 / 2 ^ 2)) (pk_shrN (by omega) _ 2 (by decide)) ?_
      refine lv_dup2_11 hx hb dX1_absorbByte_39 rfl rfl ?_
      refine rI hx hb hK hW 4 rfl (k := 0 / 2 ^ 2) (by omega) (by omega) dX1_absorbByte_40 ?_
      refine lv_iload_n hx hb dX1_absorbByte_41 rfl (lv_at hl 1 rfl) ?_
      refine lv_sipush (v := nI (255)) hx hb dX1_absorbByte_42 (by decide) ?_
      refine lv_iand hx hb dX1_absorbByte_45 ?_
      refine lv_bipush (v := nI (8)) hx hb dX1_absorbByte_46 (by decide) ?_
      refine lv_aload_n hx hb dX1_absorbByte_48 rfl (lv_at hl 0 rfl) ?_
      refine va_get (D := D) (ci := 1) (v := .int (nI (0))) (C := RX1) (T := TX1) (N := 13) hx hb hts i_X1_absorbByte_X1 hown hK hW.1 0 rfl rfl 12 (by decide) (hts (.fieldLink RX1 67 "TreeHashes$Hasher" "inBlock" "I") f_X1_absorbByte_0) (fun _ h9 => h9) rfl dX1_absorbByte_49 ?_
      refine lv_iconst (v := nI (3)) hx hb dX1_absorbByte_52 (by decide) ?_
      refine lv_iand hx hb dX1_absorbByte_53 ?_
      refine tI (x' := nI (0 % 2 ^ 2)) (pk_andN (by omega) 2 (by decide)) ?_
      refine lv_imul hx hb dX1_absorbByte_54 ?_
      refine tI (pk_mul _ _) ?_
      refine lv_ishl hx hb dX1_absorbByte_55 ?_
      refine lv_ior hx hb dX1_absorbByte_56 ?_
      refine wI hx hb hK hW 4 rfl (k := 0 / 2 ^ 2) (by omega) (by omega) dX1_absorbByte_57 (fun H locs hW => ?_)
      have hW : Wd D A s [(h0, .inr (1, [.ref m0, .ref qk, .ref qs, .ref qc, .ref qb, .int (md), .int (bs), .int (nI (fc)), .int (nI (nt)), .int (nI ((clo nt) + 1)), .int (nI ((mg kf bs (skS kf bs g fc (clo nt)) (hdp nt) ((clo nt) + 1) (mixV (hcf kf bs g fc nt) (hbf g nt) (lN (fc + (clo nt))) (nI ((hib nt))) ((bs + (nI (fst0 (hbk nt)))) + (nI (2))))).1 + 1)), .int (nI (0)), .int (nI (0))])), (qk, .inl (cy 0, 8, .inl (kf))), (qs, .inl (cy 0, 40, .inl (sf2_19))), (qc, .inl (cy 0, 8, .inl (kf))), (qb, .inl (cy 0, 16, .inl (upd ((fun _ => nI (0))) (0 / 2 ^ 2) ((((fun _ => nI (0))) (0 / 2 ^ 2)) ||| ((b &&& (nI (255))) <<< ((nI (8 * (0 % 2 ^ 2))) &&& 31)))))), (m0, .inr (2, [.ref mc, .ref mb, .long (ct2_19), .int (ln2_19), .int (fl2_19), .ref mv, .ref aw2_19, .ref an2_19])), (mc, .inl (cy 0, 8, .inl (ch2_19))), (mb, .inl (cy 0, 16, .inl (bl2_19))), (mv, .inl (cy 0, 16, .inl (v2_19))), (aw2_19, .inl (cy 0, 16, .inl (w2_19))), (an2_19, .inl (cy 0, 16, .inl (nw2_19)))] H locs := hW
      refine lv_aload_n hx hb dX1_absorbByte_58 rfl (lv_at hl 0 rfl) ?_
      refine lv_dup hx hb dX1_absorbByte_59 rfl ?_
      refine va_get (D := D) (ci := 1) (v := .int (nI (0))) (C := RX1) (T := TX1) (N := 13) hx hb hts i_X1_absorbByte_X1 hown hK hW.1 0 rfl rfl 12 (by decide) (hts (.fieldLink RX1 67 "TreeHashes$Hasher" "inBlock" "I") f_X1_absorbByte_0) (fun _ h9 => h9) rfl dX1_absorbByte_60 ?_
      refine lv_iconst (v := nI (1)) hx hb dX1_absorbByte_63 (by decide) ?_
      refine lv_iadd hx hb dX1_absorbByte_64 ?_
      refine tI (nI_add _ _) ?_
      refine va_put (D := D) (ci := 1) (v := .int (nI (0 + 1))) (ty := .int) (C := RX1) (T := TX1) (N := 13) hx hb hts i_X1_absorbByte_X1 tyX1 tyX1_ok nmX1 hown hK hW.1 hW.2.1 hW.2.2 0 rfl rfl 12 (by decide) (hts (.fieldLink RX1 67 "TreeHashes$Hasher" "inBlock" "I") f_X1_absorbByte_0) (fun _ h9 => h9) rfl (by decide +kernel) rfl rfl (Nat.le_of_ble_eq_true rfl) dX1_absorbByte_65 (fun H locs hP hD hS => ?_)
      have hW : Wd D A s [(h0, .inr (1, [.ref m0, .ref qk, .ref qs, .ref qc, .ref qb, .int (md), .int (bs), .int (nI (fc)), .int (nI (nt)), .int (nI ((clo nt) + 1)), .int (nI ((mg kf bs (skS kf bs g fc (clo nt)) (hdp nt) ((clo nt) + 1) (mixV (hcf kf bs g fc nt) (hbf g nt) (lN (fc + (clo nt))) (nI ((hib nt))) ((bs + (nI (fst0 (hbk nt)))) + (nI (2))))).1 + 1)), .int (nI (0)), .int (nI (0 + 1))])), (qk, .inl (cy 0, 8, .inl (kf))), (qs, .inl (cy 0, 40, .inl (sf2_19))), (qc, .inl (cy 0, 8, .inl (kf))), (qb, .inl (cy 0, 16, .inl (upd ((fun _ => nI (0))) (0 / 2 ^ 2) ((((fun _ => nI (0))) (0 / 2 ^ 2)) ||| ((b &&& (nI (255))) <<< ((nI (8 * (0 % 2 ^ 2))) &&& 31)))))), (m0, .inr (2, [.ref mc, .ref mb, .long (ct2_19), .int (ln2_19), .int (fl2_19), .ref mv, .ref aw2_19, .ref an2_19])), (mc, .inl (cy 0, 8, .inl (ch2_19))), (mb, .inl (cy 0, 16, .inl (bl2_19))), (mv, .inl (cy 0, 16, .inl (v2_19))), (aw2_19, .inl (cy 0, 16, .inl (w2_19))), (an2_19, .inl (cy 0, 16, .inl (nw2_19)))] H locs := ⟨hP, hD, hS⟩
      refine lv_aload_n hx hb dX1_absorbByte_68 rfl (lv_at hl 0 rfl) ?_
      refine lv_dup hx hb dX1_absorbByte_69 rfl ?_
      refine va_get (D := D) (ci := 1) (v := .int (nI (nt))) (C := RX1) (T := TX1) (N := 13) hx hb hts i_X1_absorbByte_X1 hown hK hW.1 0 rfl rfl 8 (by decide) (hts (.fieldLink RX1 52 "TreeHashes$Hasher" "taken" "I") f_X1_absorbByte_3) (fun _ h9 => h9) rfl dX1_absorbByte_70 ?_
      refine lv_iconst (v := nI (1)) hx hb dX1_absorbByte_73 (by decide) ?_
      refine lv_iadd hx hb dX1_absorbByte_74 ?_
      refine tI (nI_add _ _) ?_
      refine va_put (D := D) (ci := 1) (v := .int (nI (nt + 1))) (ty := .int) (C := RX1) (T := TX1) (N := 13) hx hb hts i_X1_absorbByte_X1 tyX1 tyX1_ok nmX1 hown hK hW.1 hW.2.1 hW.2.2 0 rfl rfl 8 (by decide) (hts (.fieldLink RX1 52 "TreeHashes$Hasher" "taken" "I") f_X1_absorbByte_3) (fun _ h9 => h9) rfl (by decide +kernel) rfl rfl (Nat.le_of_ble_eq_true rfl) dX1_absorbByte_75 (fun H locs hP hD hS => ?_)
      have hW : Wd D A s [(h0, .inr (1, [.ref m0, .ref qk, .ref qs, .ref qc, .ref qb, .int (md), .int (bs), .int (nI (fc)), .int (nI (nt + 1)), .int (nI ((clo nt) + 1)), .int (nI ((mg kf bs (skS kf bs g fc (clo nt)) (hdp nt) ((clo nt) + 1) (mixV (hcf kf bs g fc nt) (hbf g nt) (lN (fc + (clo nt))) (nI ((hib nt))) ((bs + (nI (fst0 (hbk nt)))) + (nI (2))))).1 + 1)), .int (nI (0)), .int (nI (0 + 1))])), (qk, .inl (cy 0, 8, .inl (kf))), (qs, .inl (cy 0, 40, .inl (sf2_19))), (qc, .inl (cy 0, 8, .inl (kf))), (qb, .inl (cy 0, 16, .inl (upd ((fun _ => nI (0))) (0 / 2 ^ 2) ((((fun _ => nI (0))) (0 / 2 ^ 2)) ||| ((b &&& (nI (255))) <<< ((nI (8 * (0 % 2 ^ 2))) &&& 31)))))), (m0, .inr (2, [.ref mc, .ref mb, .long (ct2_19), .int (ln2_19), .int (fl2_19), .ref mv, .ref aw2_19, .ref an2_19])), (mc, .inl (cy 0, 8, .inl (ch2_19))), (mb, .inl (cy 0, 16, .inl (bl2_19))), (mv, .inl (cy 0, 16, .inl (v2_19))), (aw2_19, .inl (cy 0, 16, .inl (w2_19))), (an2_19, .inl (cy 0, 16, .inl (nw2_19)))] H locs := ⟨hP, hD, hS⟩
      exact eV hQ hx hb hr hlocks hK hW (sf2_19, ch2_19, bl2_19, ct2_19, ln2_19, fl2_19, v2_19, aw2_19, an2_19, w2_19, nw2_19) (by rw [e8, e7]; exact p19) (by simp only [e4, e5, hg]; rw [e7, e1, e2, e3]) dX1_absorbByte_78

set_option maxHeartbeats 4000000 in
set_option maxRecDepth 100000 in
theorem c_X1_absorb (l : Launch) (D : va_G) (cy : Nat → ClassId) (t : Nat × Nat) (m0 : Nat) (mc : Nat) (mb : Nat) (mv : Nat) (aw : Nat) (an : Nat) (ct : Int64) (ln : Int32) (fl : Int32) (h0 : Nat) (qk : Nat) (qs : Nat) (qc : Nat) (qb : Nat) (md : Int32) (bs : Int32) (fc : Nat) (nt : Nat) (kf : Nat → Int32) (sf : Nat → Int32) (g : Nat → Int32) (ch : Nat → Int32) (bl : Nat → Int32) (v : Nat → Int32) (w : Nat → Int32) (nw : Nat → Int32) (b0 : Nat) (b1 : Nat) (n0 : Nat) (cnt : Nat) (f : Nat → Int32) (k0 : Nat) (n : Nat) (ht : nt + n ≤ 40000) (hfc : fc ≤ 1000) (hSk : SKr sf (skS kf bs g fc (clo nt)) (hdp nt)) (hc : cnt ≤ n0) (hn : n0 < 2 ^ 31) (hk : k0 + n ≤ cnt) (hg : ∀ i, i < n → g (nt + i) = f (k0 + i) &&& 255) (sz : Nat) : Met l yX1_absorb wsX1_absorb ({ frames := 4, cells := 0, slots := 0, locals := 94 }) (PcW D cy t [(h0, .inr (1, [.ref m0, .ref qk, .ref qs, .ref qc, .ref qb, .int (md), .int (bs), .int (nI (fc)), .int (nI (nt)), .int (nI (clo nt)), .int (nI (hdp nt)), .int (nI (hbk nt)), .int (nI (hib nt))])), (qk, .inl (cy 0, 8, .inl (kf))), (qs, .inl (cy 0, 40, .inl (sf))), (qc, .inl (cy 0, 8, .inl (hcf kf bs g fc nt))), (qb, .inl (cy 0, 16, .inl (hbf g nt))), (m0, .inr (2, [.ref mc, .ref mb, .long (ct), .int (ln), .int (fl), .ref mv, .ref aw, .ref an])), (mc, .inl (cy 0, 8, .inl (ch))), (mb, .inl (cy 0, 16, .inl (bl))), (mv, .inl (cy 0, 16, .inl (v))), (aw, .inl (cy 0, 16, .inl (w))), (an, .inl (cy 0, 16, .inl (nw))), (b0, .inr (0, [.ref b1, .int (nI (cnt))])), (b1, .inl (cy 1, n0, .inl (f)))] [.ref h0, .ref b0, .int (nI (k0)), .int (nI (n))] sz) (QvA D cy (fun u : (Nat → Int32) × (Nat → Int32) × (Nat → Int32) × (Int64) × (Int32) × (Int32) × (Nat → Int32) × (Nat) × (Nat) × (Nat → Int32) × (Nat → Int32) => match u with | (sf2, ch2, bl2, ct2, ln2, fl2, v2, aw2, an2, w2, nw2) => (SKr sf2 (skS kf bs g fc (clo (nt + n))) (hdp (nt + n)))) (fun u : (Nat → Int32) × (Nat → Int32) × (Nat → Int32) × (Int64) × (Int32) × (Int32) × (Nat → Int32) × (Nat) × (Nat) × (Nat → Int32) × (Nat → Int32) => match u with | (sf2, ch2, bl2, ct2, ln2, fl2, v2, aw2, an2, w2, nw2) => [(h0, .inr (1, [.ref m0, .ref qk, .ref qs, .ref qc, .ref qb, .int (md), .int (bs), .int (nI (fc)), .int (nI (nt + n)), .int (nI (clo (nt + n))), .int (nI (hdp (nt + n))), .int (nI (hbk (nt + n))), .int (nI (hib (nt + n)))])), (qk, .inl (cy 0, 8, .inl (kf))), (qs, .inl (cy 0, 40, .inl (sf2))), (qc, .inl (cy 0, 8, .inl (hcf kf bs g fc (nt + n)))), (qb, .inl (cy 0, 16, .inl (hbf g (nt + n)))), (m0, .inr (2, [.ref mc, .ref mb, .long (ct2), .int (ln2), .int (fl2), .ref mv, .ref aw2, .ref an2])), (mc, .inl (cy 0, 8, .inl (ch2))), (mb, .inl (cy 0, 16, .inl (bl2))), (mv, .inl (cy 0, 16, .inl (v2))), (aw2, .inl (cy 0, 16, .inl (w2))), (an2, .inl (cy 0, 16, .inl (nw2))), (b0, .inr (0, [.ref b1, .int (nI (cnt))])), (b1, .inl (cy 1, n0, .inl (f)))]) (va_A [(h0, .inr (1, [.ref m0, .ref qk, .ref qs, .ref qc, .ref qb, .int (md), .int (bs), .int (nI (fc)), .int (nI (nt)), .int (nI (clo nt)), .int (nI (hdp nt)), .int (nI (hbk nt)), .int (nI (hib nt))])), (qk, .inl (cy 0, 8, .inl (kf))), (qs, .inl (cy 0, 40, .inl (sf))), (qc, .inl (cy 0, 8, .inl (hcf kf bs g fc nt))), (qb, .inl (cy 0, 16, .inl (hbf g nt))), (m0, .inr (2, [.ref mc, .ref mb, .long (ct), .int (ln), .int (fl), .ref mv, .ref aw, .ref an])), (mc, .inl (cy 0, 8, .inl (ch))), (mb, .inl (cy 0, 16, .inl (bl))), (mv, .inl (cy 0, 16, .inl (v))), (aw, .inl (cy 0, 16, .inl (w))), (an, .inl (cy 0, 16, .inl (nw))), (b0, .inr (0, [.ref b1, .int (nI (cnt))])), (b1, .inl (cy 1, n0, .inl (f)))] sz)) 0 0 (va_A [(h0, .inr (1, [.ref m0, .ref qk, .ref qs, .ref qc, .ref qb, .int (md), .int (bs), .int (nI (fc)), .int (nI (nt)), .int (nI (clo nt)), .int (nI (hdp nt)), .int (nI (hbk nt)), .int (nI (hib nt))])), (qk, .inl (cy 0, 8, .inl (kf))), (qs, .inl (cy 0, 40, .inl (sf))), (qc, .inl (cy 0, 8, .inl (hcf kf bs g fc nt))), (qb, .inl (cy 0, 16, .inl (hbf g nt))), (m0, .inr (2, [.ref mc, .ref mb, .long (ct), .int (ln), .int (fl), .ref mv, .ref aw, .ref an])), (mc, .inl (cy 0, 8, .inl (ch))), (mb, .inl (cy 0, 16, .inl (bl))), (mv, .inl (cy 0, 16, .inl (v))), (aw, .inl (cy 0, 16, .inl (w))), (an, .inl (cy 0, 16, .inl (nw))), (b0, .inr (0, [.ref b1, .int (nI (cnt))])), (b1, .inl (cy 1, n0, .inl (f)))] sz) := by
  refine M_ofW (cc := cX1_absorb) (maxL := 5) (ret := none) (by decide) rfl (Nat.le_of_ble_eq_true rfl) ?_
  intro p e s m below meth c A ls args Q hQ S0 hr hlocks hnm hK hst hA hW hl
  have hx := S0.1; have hb := S0.2.1; have hml := S0.2.2.1; have hown := S0.2.2.2.1; have hts := S0.2.2.2.2
  have hl : lv_has ls 5 [(0, .ref h0), (1, .ref b0), (2, .int (nI (k0))), (3, .int (nI (n)))] := hl
  refine lv_iconst (v := nI (0)) hx hb dX1_absorb_0 (by decide) ?_
  refine lv_istore (lv' := [(4, .int (nI (0))), (0, .ref h0), (1, .ref b0), (2, .int (nI (k0))), (3, .int (nI (n)))]) hx hb dX1_absorb_1 hl (by decide) rfl (fun ls hl => ?_)
  have loop3 : ∀ (nF : Nat) (i : Nat) (sx : Nat → Int32) (chx : Nat → Int32) (blx : Nat → Int32) (cx : Int64) (lx : Int32) (fx : Int32) (vx : Nat → Int32) (ax : Nat) (ay : Nat) (wx : Nat → Int32) (nx : Nat → Int32), n - i < nF → (i ≤ n) → (SKr sx (skS kf bs g fc (clo (nt + i))) (hdp (nt + i))) → ∀ (H : Heap) (locs : List Loc), Wd D A s [(h0, .inr (1, [.ref m0, .ref qk, .ref qs, .ref qc, .ref qb, .int (md), .int (bs), .int (nI (fc)), .int (nI (nt + i)), .int (nI (clo (nt + i))), .int (nI (hdp (nt + i))), .int (nI (hbk (nt + i))), .int (nI (hib (nt + i)))])), (qk, .inl (cy 0, 8, .inl (kf))), (qs, .inl (cy 0, 40, .inl (sx))), (qc, .inl (cy 0, 8, .inl (hcf kf bs g fc (nt + i)))), (qb, .inl (cy 0, 16, .inl (hbf g (nt + i)))), (m0, .inr (2, [.ref mc, .ref mb, .long (cx), .int (lx), .int (fx), .ref mv, .ref ax, .ref ay])), (mc, .inl (cy 0, 8, .inl (chx))), (mb, .inl (cy 0, 16, .inl (blx))), (mv, .inl (cy 0, 16, .inl (vx))), (ax, .inl (cy 0, 16, .inl (wx))), (ay, .inl (cy 0, 16, .inl (nx))), (b0, .inr (0, [.ref b1, .int (nI (cnt))])), (b1, .inl (cy 1, n0, .inl (f)))] H locs → ∀ ls : Array Slot, lv_has ls 5 [(0, .ref h0), (1, .ref b0), (2, .int (nI (k0))), (3, .int (nI (n))), (4, .int (nI (i)))] → W p l e ({ frames := 4, cells := 0, slots := 0, locals := 94 }) s m args below meth c H locs 0 0 Q (F0 m 3 ls []) := by
    intro nF
    induction nF with
    | zero => intro i sx chx blx cx lx fx vx ax ay wx nx hf; exact absurd hf (Nat.not_lt_zero _)
    | succ nF ih =>
      intro i sx chx blx cx lx fx vx ax ay wx nx hf hi hSx H locs hW ls hl
      refine lv_iload hx hb dX1_absorb_3 (lv_at hl 4 rfl) ?_
      refine lv_iload_n hx hb dX1_absorb_5 rfl (lv_at hl 3 rfl) ?_
      refine iGe (a := i) (b := n) (tgt := 27) hx hb dX1_absorb_6 (by decide) (by omega) (by omega) (fun h6 => ?_) (fun h6 => ?_)
      · skip
        have e9 : i = n := by omega
        rw [e9] at hW hSx
        exact eV hQ hx hb hr hlocks hK hW (sx, chx, blx, cx, lx, fx, vx, ax, ay, wx, nx) (hSx) (rfl) dX1_absorb_27
      · skip
        refine lv_aload_n hx hb dX1_absorb_9 rfl (lv_at hl 0 rfl) ?_
        refine lv_aload_n hx hb dX1_absorb_10 rfl (lv_at hl 1 rfl) ?_
        refine lv_iload_n hx hb dX1_absorb_11 rfl (lv_at hl 2 rfl) ?_
        refine lv_iload hx hb dX1_absorb_12 (lv_at hl 4 rfl) ?_
        refine lv_iadd hx hb dX1_absorb_14 ?_
        refine tI (nI_add _ _) ?_
        refine kVi (As := [.int (nI (k0 + i))]) (rest := [.ref h0]) S0 hK hst hA hW [11, 12] (fun sz => c_X0_byteAt l D cy t b0 b1 n0 cnt f (nI (k0 + i)) (by omega) (by omega) sz) rfl (by decide) (cwV 1 hts gX1_absorb_X0_byteAt rfl rfl rfl (by decide +kernel) ⟨Nat.le_of_ble_eq_true rfl, Nat.le_of_ble_eq_true rfl⟩) (fun _ => rfl) 0 0 rfl rfl rfl hl.1 rfl (Nat.le_of_ble_eq_true rfl) dX1_absorb_15 ⟨Nat.le_of_ble_eq_true rfl, Nat.le_of_ble_eq_true rfl⟩ (fun r15 u15 H locs p15 hW => ?_)
        have hW : Wd D A s [(h0, .inr (1, [.ref m0, .ref qk, .ref qs, .ref qc, .ref qb, .int (md), .int (bs), .int (nI (fc)), .int (nI (nt + i)), .int (nI (clo (nt + i))), .int (nI (hdp (nt + i))), .int (nI (hbk (nt + i))), .int (nI (hib (nt + i)))])), (qk, .inl (cy 0, 8, .inl (kf))), (qs, .inl (cy 0, 40, .inl (sx))), (qc, .inl (cy 0, 8, .inl (hcf kf bs g fc (nt + i)))), (qb, .inl (cy 0, 16, .inl (hbf g (nt + i)))), (m0, .inr (2, [.ref mc, .ref mb, .long (cx), .int (lx), .int (fx), .ref mv, .ref ax, .ref ay])), (mc, .inl (cy 0, 8, .inl (chx))), (mb, .inl (cy 0, 16, .inl (blx))), (mv, .inl (cy 0, 16, .inl (vx))), (ax, .inl (cy 0, 16, .inl (wx))), (ay, .inl (cy 0, 16, .inl (nx))), (b0, .inr (0, [.ref b1, .int (nI (cnt))])), (b1, .inl (cy 1, n0, .inl (f)))] H locs := hW
        have q15 : r15 = byt f cnt (nI (k0 + i)) := p15
        subst q15
        refine tI (x' := f (k0 + i) &&& 255) (byt_in (by omega) (by omega)) ?_
        refine kVv (As := [.int (f (k0 + i) &&& 255)]) (rest := []) S0 hK hst hA hW [0, 1, 2, 3, 4, 5, 6, 7, 8, 9, 10] (fun sz => c_X1_absorbByte l D cy t m0 mc mb mv ax ay cx lx fx h0 qk qs qc qb md bs fc (nt + i) kf sx g chx blx vx wx nx (f (k0 + i) &&& 255) (by omega) (by omega) (hSx) (by rw [hg i (by omega), and255]) sz) rfl (by decide) (cwV 1 hts gX1_absorb_X1_absorbByte rfl rfl rfl (by decide +kernel) ⟨Nat.le_of_ble_eq_true rfl, Nat.le_of_ble_eq_true rfl⟩) (fun ⟨_, _, _, _, _, _, _, _, _, _, _⟩ => rfl) 0 1 rfl rfl rfl hl.1 rfl (Nat.le_of_ble_eq_true rfl) dX1_absorb_18 ⟨Nat.le_of_ble_eq_true rfl, Nat.le_of_ble_eq_true rfl⟩ (fun u18 H locs p18 hW => ?_)
        obtain ⟨sf2_18, ch2_18, bl2_18, ct2_18, ln2_18, fl2_18, v2_18, aw2_18, an2_18, w2_18, nw2_18⟩ := u18
        have hW : Wd D A s [(h0, .inr (1, [.ref m0, .ref qk, .ref qs, .ref qc, .ref qb, .int (md), .int (bs), .int (nI (fc)), .int (nI ((nt + i) + 1)), .int (nI (clo ((nt + i) + 1))), .int (nI (hdp ((nt + i) + 1))), .int (nI (hbk ((nt + i) + 1))), .int (nI (hib ((nt + i) + 1)))])), (qk, .inl (cy 0, 8, .inl (kf))), (qs, .inl (cy 0, 40, .inl (sf2_18))), (qc, .inl (cy 0, 8, .inl (hcf kf bs g fc ((nt + i) + 1)))), (qb, .inl (cy 0, 16, .inl (hbf g ((nt + i) + 1)))), (m0, .inr (2, [.ref mc, .ref mb, .long (ct2_18), .int (ln2_18), .int (fl2_18), .ref mv, .ref aw2_18, .ref an2_18])), (mc, .inl (cy 0, 8, .inl (ch2_18))), (mb, .inl (cy 0, 16, .inl (bl2_18))), (mv, .inl (cy 0, 16, .inl (v2_18))), (aw2_18, .inl (cy 0, 16, .inl (w2_18))), (an2_18, .inl (cy 0, 16, .inl (nw2_18))), (b0, .inr (0, [.ref b1, .int (nI (cnt))])), (b1, .inl (cy 1, n0, .inl (f)))] H locs := hW
        refine lv_iinc (v := nI (i + 1)) (lv' := [(4, .int (nI (i + 1))), (0, .ref h0), (1, .ref b0), (2, .int (nI (k0))), (3, .int (nI (n)))]) hx hb dX1_absorb_21 hl (k := 4) rfl (nI_1 _) (by decide) rfl (fun ls hl => ?_)
        refine lv_goto (tgt := 3) hx hb dX1_absorb_24 (by decide) ?_
        exact ih (i + 1) sf2_18 ch2_18 bl2_18 ct2_18 ln2_18 fl2_18 v2_18 aw2_18 an2_18 w2_18 nw2_18 (by omega) (by omega) (p18) _ _ hW _ (lv_sub hl [1, 2, 3, 4, 0] rfl)
  exact loop3 _ 0 sf ch bl ct ln fl v aw an w nw (Nat.lt_succ_self _) (by omega) (hSk) _ _ hW _ (lv_sub hl [1, 2, 3, 4, 0] rfl)
end
section
/-- the left: the greatest power of two that is less -/
def lft (n : Nat) : Nat := 2 ^ Nat.log2 (n - 1)
theorem lft_is {n a : Nat} (h1 : n ≤ 2 * 2 ^ a) (h2 : a = 0 ∨ 2 ^ a < n) : lft n = 2 ^ a := by
  unfold lft
  by_cases hn : n - 1 = 0
  · rcases h2 with h2 | h2
    · subst h2
      rw [hn]
      rfl
    · have : 0 < 2 ^ a := Nat.pow_pos (by decide)
      omega
  · congr 1
    rw [Nat.log2_eq_iff hn]
    refine ⟨?_, by rw [Nat.pow_succ]; omega⟩
    rcases h2 with h2 | h2
    · subst h2
      show 1 ≤ n - 1
      omega
    · omega
theorem lft_pos (n : Nat) : 0 < lft n := Nat.pow_pos (by decide)
theorem lft_ex (n : Nat) : ∃ a, lft n = 2 ^ a ∧ n ≤ 2 * 2 ^ a ∧ (a = 0 ∨ 2 ^ a < n) := by
  refine ⟨Nat.log2 (n - 1), rfl, ?_, ?_⟩
  · by_cases hn : n - 1 = 0
    · have : 0 < 2 ^ Nat.log2 (n - 1) := Nat.pow_pos (by decide)
      omega
    · have := (Nat.log2_eq_iff hn (k := Nat.log2 (n - 1))).mp rfl
      rw [Nat.pow_succ] at this
      omega
  · by_cases hn : n - 1 = 0
    · left
      rw [hn]
      rfl
    · right
      have := (Nat.log2_eq_iff hn (k := Nat.log2 (n - 1))).mp rfl
      omega
theorem lft_lt {n : Nat} (h : 1 < n) : lft n < n := by
  obtain ⟨a, e, h1, h2⟩ := lft_ex n
  rw [e]
  rcases h2 with h2 | h2
  · subst h2
    exact h
  · exact h2
theorem lft_half (n : Nat) : n ≤ 2 * lft n := by
  obtain ⟨a, e, h1, h2⟩ := lft_ex n
  rw [e]
  exact h1
theorem lft_le {n k : Nat} (h : n ≤ 2 ^ (k + 1)) : lft n ≤ 2 ^ k := by
  obtain ⟨a, e, h1, h2⟩ := lft_ex n
  rw [e]
  rcases h2 with h2 | h2
  · subst h2
    exact Nat.pow_pos (by decide)
  · have : a < k + 1 := (Nat.pow_lt_pow_iff_right (by decide : 1 < 2)).mp (Nat.lt_of_lt_of_le h2 h)
    exact Nat.pow_le_pow_right (by decide) (by omega)
/-- the way down to chunk c of n: the first chunk and the number of those that are left -/
def wyS (c n : Nat) : Nat → Nat × Nat
  | 0 => (0, n)
  | i + 1 => if c < (wyS c n i).1 + lft (wyS c n i).2 then ((wyS c n i).1, lft (wyS c n i).2) else ((wyS c n i).1 + lft (wyS c n i).2, (wyS c n i).2 - lft (wyS c n i).2)
def wyF (c n i : Nat) : Nat := if c < (wyS c n i).1 + lft (wyS c n i).2 then (wyS c n i).1 + lft (wyS c n i).2 else (wyS c n i).1
def wyC (c n i : Nat) : Nat := if c < (wyS c n i).1 + lft (wyS c n i).2 then (wyS c n i).2 - lft (wyS c n i).2 else lft (wyS c n i).2
/-- how long the way is -/
def wyL (c n L : Nat) : Prop := (wyS c n L).2 ≤ 1 ∧ ∀ i, i < L → 1 < (wyS c n i).2
theorem wyS_l {c n i fi nu : Nat} (h : wyS c n i = (fi, nu)) (hc : c < fi + lft nu) : wyS c n (i + 1) = (fi, lft nu) ∧ wyF c n i = fi + lft nu ∧ wyC c n i = nu - lft nu := by
  refine ⟨?_, ?_, ?_⟩
  · show (if _ then _ else _) = _
    rw [h, if_pos hc]
  · unfold wyF
    rw [h, if_pos hc]
  · unfold wyC
    rw [h, if_pos hc]
theorem wyS_r {c n i fi nu : Nat} (h : wyS c n i = (fi, nu)) (hc : fi + lft nu ≤ c) : wyS c n (i + 1) = (fi + lft nu, nu - lft nu) ∧ wyF c n i = fi ∧ wyC c n i = lft nu := by
  refine ⟨?_, ?_, ?_⟩
  · show (if _ then _ else _) = _
    rw [h, if_neg (Nat.not_lt.mpr hc)]
  · unfold wyF
    rw [h, if_neg (Nat.not_lt.mpr hc)]
  · unfold wyC
    rw [h, if_neg (Nat.not_lt.mpr hc)]
theorem wyS_p {c n k : Nat} (hn : n ≤ 2 ^ k) : ∀ {i : Nat}, i ≤ k → (wyS c n i).2 ≤ 2 ^ (k - i)
  | 0, _ => hn
  | i + 1, hi => by
    have ih := wyS_p (c := c) hn (i := i) (by omega)
    have e : k - i = (k - (i + 1)) + 1 := by omega
    rw [e] at ih
    have h1 := lft_le ih
    have h2 := lft_half (wyS c n i).2
    show (if _ then _ else _ : Nat × Nat).2 ≤ _
    split
    · exact h1
    · show (wyS c n i).2 - lft (wyS c n i).2 ≤ _
      omega
theorem wyS_b {c n : Nat} (hc : c < n) : ∀ (i : Nat), (wyS c n i).1 + (wyS c n i).2 ≤ n ∧ (wyS c n i).1 ≤ c ∧ c < (wyS c n i).1 + (wyS c n i).2
  | 0 => ⟨by show 0 + n ≤ n; omega, Nat.zero_le _, by show c < 0 + n; omega⟩
  | i + 1 => by
    have ih := wyS_b hc i
    have h2 : lft (wyS c n i).2 ≤ (wyS c n i).2 := by
      by_cases q : 1 < (wyS c n i).2
      · exact Nat.le_of_lt (lft_lt q)
      · have e : (wyS c n i).2 = 1 := by omega
        rw [e]
        decide
    by_cases q : c < (wyS c n i).1 + lft (wyS c n i).2
    · obtain ⟨e, -, -⟩ := wyS_l (c := c) (n := n) (i := i) rfl q
      rw [e]
      exact ⟨by show (wyS c n i).1 + lft (wyS c n i).2 ≤ n; omega, ih.2.1, q⟩
    · obtain ⟨e, -, -⟩ := wyS_r (c := c) (n := n) (i := i) rfl (Nat.not_lt.mp q)
      rw [e]
      exact ⟨by show (wyS c n i).1 + lft (wyS c n i).2 + ((wyS c n i).2 - lft (wyS c n i).2) ≤ n; omega, Nat.not_lt.mp q, by show c < (wyS c n i).1 + lft (wyS c n i).2 + ((wyS c n i).2 - lft (wyS c n i).2); omega⟩
theorem wyL_le {c n k L : Nat} (hn : n ≤ 2 ^ k) (h : wyL c n L) : L ≤ k := by
  rcases Nat.lt_or_ge k L with q | q
  · have h1 := h.2 k q
    have h2 := wyS_p (c := c) hn (i := k) (Nat.le_refl k)
    rw [Nat.sub_self] at h2
    omega
  · exact q
theorem wyL_one {c n L M : Nat} (h : wyL c n L) (h2 : wyL c n M) : L = M := by
  rcases Nat.lt_trichotomy L M with q | q | q
  · exact absurd (h2.2 L q) (Nat.not_lt.mpr h.1)
  · exact q
  · exact absurd (h.2 M q) (Nat.not_lt.mpr h2.1)
/-- what the other side is, at each parent of the way -/
theorem wy_other {c n L : Nat} (hc : c < n) (h : wyL c n L) {i : Nat} (hi : i < L) : wyF c n i + wyC c n i ≤ n ∧ 0 < wyC c n i ∧ (wyF c n i < c ↔ ¬ c < (wyS c n i).1 + lft (wyS c n i).2) := by
  have hb := wyS_b hc i
  have h1 := h.2 i hi
  have h2 := lft_lt h1
  have h3 := lft_pos (wyS c n i).2
  by_cases q : c < (wyS c n i).1 + lft (wyS c n i).2
  · obtain ⟨-, e1, e2⟩ := wyS_l (c := c) (n := n) (i := i) rfl q
    rw [e1, e2]
    omega
  · obtain ⟨-, e1, e2⟩ := wyS_r (c := c) (n := n) (i := i) rfl (Nat.not_lt.mp q)
    rw [e1, e2]
    omega
/-- up the way: the other chains rd, the nodes -/
def clb (oF : Nat → Nat) (c : Nat) (rd : Nat → Nat → Int32) : Nat → Nd → Nd
  | 0, N => N
  | L + 1, N => clb oF c rd L (stA, if oF L < c then jn (rd L) (mx N) else jn (mx N) (rd L), lN 0, nI 64, nI 0 + nI 4)
theorem clb_s {oF : Nat → Nat} {c : Nat} {rd : Nat → Nat → Int32} {N : Nd} : ∀ {d : Nat}, 0 < d → clb oF c rd d N = clb oF c rd (d - 1) (stA, if oF (d - 1) < c then jn (rd (d - 1)) (mx N) else jn (mx N) (rd (d - 1)), lN 0, nI 64, nI 0 + nI 4)
  | d + 1, _ => rfl
theorem SKr_0 {sf : Nat → Int32} {S : Nat → Nat → Int32} : SKr sf S (hdp 0) := fun i hi => absurd hi (Nat.not_lt_zero i)
theorem hdp_5 {t : Nat} (h : t ≤ 40000) : hdp t ≤ 5 := pcn_40 _ (by unfold clo; omega)
end
section
set_option maxHeartbeats 4000000 in
set_option maxRecDepth 100000 in
theorem c_X3_leftOf (l : Launch) (D : va_G) (cy : Nat → ClassId) (t : Nat × Nat) (n : Nat) (hn : n ≤ 1024) (sz : Nat) : Met l yX3_leftOf wsX3_leftOf ({ frames := 0, cells := 0, slots := 0, locals := 0 }) (PcW D cy t [] [.int (nI (n))] sz) (QiA D cy (fun (r : Int32) (u : Unit) => (r = nI (lft n))) (fun u : Unit => []) (va_A [] sz)) 0 0 (va_A [] sz) := by
  refine M_ofW (cc := cX3_leftOf) (maxL := 3) (ret := (some .int)) (by decide) rfl (Nat.le_of_ble_eq_true rfl) ?_
  intro p e s m below meth c A ls args Q hQ S0 hr hlocks hnm hK hst hA hW hl
  have hx := S0.1; have hb := S0.2.1; have hml := S0.2.2.1; have hown := S0.2.2.2.1; have hts := S0.2.2.2.2
  have hl : lv_has ls 3 [(0, .int (nI (n)))] := hl
  refine lv_iconst (v := nI (1)) hx hb dX3_leftOf_0 (by decide) ?_
  refine lv_istore_n (lv' := [(1, .int (nI (1))), (0, .int (nI (n)))]) hx hb dX3_leftOf_1 rfl hl (by decide) rfl (fun ls hl => ?_)
  refine lv_iconst (v := nI (1)) hx hb dX3_leftOf_2 (by decide) ?_
  refine lv_istore_n (lv' := [(2, .int (nI (1))), (1, .int (nI (1))), (0, .int (nI (n)))]) hx hb dX3_leftOf_3 rfl hl (by decide) rfl (fun ls hl => ?_)
  have loop4 : ∀ (nF : Nat) (a : Nat), 9 - a < nF → (a ≤ 9) → (a = 0 ∨ 2 ^ a < n) → ∀ (H : Heap) (locs : List Loc), Wd D A s [] H locs → ∀ ls : Array Slot, lv_has ls 3 [(0, .int (nI (n))), (1, .int (nI (2 ^ a))), (2, .int (nI (a + 1)))] → W p l e ({ frames := 0, cells := 0, slots := 0, locals := 0 }) s m args below meth c H locs 0 0 Q (F0 m 4 ls []) := by
    intro nF
    induction nF with
    | zero => intro a hf; exact absurd hf (Nat.not_lt_zero _)
    | succ nF ih =>
      intro a hf ha1 ha2 H locs hW ls hl
      have hp : 2 ^ a ≤ 512 := Nat.le_trans (Nat.pow_le_pow_right (by decide) ha1) (by decide)
      refine lv_iload_n hx hb dX3_leftOf_4 rfl (lv_at hl 2 rfl) ?_
      refine lv_bipush (v := nI (10)) hx hb dX3_leftOf_5 (by decide) ?_
      refine iGe (a := a + 1) (b := 10) (tgt := 27) hx hb dX3_leftOf_7 (by decide) (by omega) (by omega) (fun h7 => ?_) (fun h7 => ?_)
      · skip
        have e9 : a = 9 := by omega
        have e8 : lft n = 2 ^ a := lft_is (by rw [e9]; omega) ha2
        refine lv_iload_n hx hb dX3_leftOf_27 rfl (lv_at hl 1 rfl) ?_
        exact eI hQ hx hb hr hlocks hK hW () (by rw [e8]) (rfl) dX3_leftOf_28
      · skip
        refine lv_iconst (v := nI (2)) hx hb dX3_leftOf_10 (by decide) ?_
        refine lv_iload_n hx hb dX3_leftOf_11 rfl (lv_at hl 1 rfl) ?_
        refine lv_imul hx hb dX3_leftOf_12 ?_
        refine tI (pk_mul _ _) ?_
        refine lv_iload_n hx hb dX3_leftOf_13 rfl (lv_at hl 0 rfl) ?_
        refine iGe (a := 2 * (2 ^ a)) (b := n) (tgt := 27) hx hb dX3_leftOf_14 (by decide) (by omega) (by omega) (fun h14 => ?_) (fun h14 => ?_)
        · skip
          have e8 : lft n = 2 ^ a := lft_is (by omega) ha2
          refine lv_iload_n hx hb dX3_leftOf_27 rfl (lv_at hl 1 rfl) ?_
          exact eI hQ hx hb hr hlocks hK hW () (by rw [e8]) (rfl) dX3_leftOf_28
        · skip
          refine lv_iload_n hx hb dX3_leftOf_17 rfl (lv_at hl 1 rfl) ?_
          refine lv_iconst (v := nI (2)) hx hb dX3_leftOf_18 (by decide) ?_
          refine lv_imul hx hb dX3_leftOf_19 ?_
          refine tI (pk_mul _ _) ?_
          refine tI (x' := nI (2 ^ (a + 1))) (rfl) ?_
          refine lv_istore_n (lv' := [(1, .int (nI (2 ^ (a + 1)))), (0, .int (nI (n))), (2, .int (nI (a + 1)))]) hx hb dX3_leftOf_20 rfl hl (by decide) rfl (fun ls hl => ?_)
          refine lv_iinc (v := nI (a + 1 + 1)) (lv' := [(2, .int (nI (a + 1 + 1))), (1, .int (nI (2 ^ (a + 1)))), (0, .int (nI (n)))]) hx hb dX3_leftOf_21 hl (k := 2) rfl (nI_1 _) (by decide) rfl (fun ls hl => ?_)
          refine lv_goto (tgt := 4) hx hb dX3_leftOf_24 (by decide) ?_
          exact ih (a + 1) (by omega) (by omega) (Or.inr (by rw [Nat.pow_succ]; omega)) _ _ hW _ (lv_sub hl [2, 1, 0] rfl)
  exact loop4 _ 0 (Nat.lt_succ_self _) (by omega) (Or.inl rfl) _ _ hW _ (lv_sub hl [2, 1, 0] rfl)

theorem f_X3_lead_0 : Cond.fieldLink RX3 16 "TreeHashes$Way" "levels" "I" ∈ wsX3_lead := by decide +kernel
theorem i_X3_lead_X3 : ∀ w ∈ wsX30, w ∈ wsX3_lead := by decide +kernel
theorem f_X3_lead_2 : Cond.fieldLink RX3 9 "TreeHashes$Way" "otherFirst" "[I" ∈ wsX3_lead := by decide +kernel
theorem f_X3_lead_3 : Cond.fieldLink RX3 13 "TreeHashes$Way" "otherChunks" "[I" ∈ wsX3_lead := by decide +kernel
set_option maxHeartbeats 4000000 in
set_option maxRecDepth 100000 in
theorem c_X3_lead (l : Launch) (D : va_G) (cy : Nat → ClassId) (t : Nat × Nat) (y0 : Nat) (y1 : Nat) (y2 : Nat) (lv : Nat) (of : Nat → Int32) (oc : Nat → Int32) (n : Nat) (c0 : Nat) (hn : n ≤ 1024) (hc0 : c0 < n) (sz : Nat) : Met l yX3_lead wsX3_lead ({ frames := 1, cells := 0, slots := 0, locals := 22 }) (PcW D cy t [(y0, .inr (3, [.ref y1, .ref y2, .int (nI (lv))])), (y1, .inl (cy 0, 10, .inl (of))), (y2, .inl (cy 0, 10, .inl (oc)))] [.ref y0, .int (nI (n)), .int (nI (c0))] sz) (QvA D cy (fun u : (Nat) × (Nat → Int32) × (Nat → Int32) => match u with | (lv2, of2, oc2) => (wyL c0 n lv2) ∧ (∀ i, i < lv2 → of2 i = nI (wyF c0 n i) ∧ oc2 i = nI (wyC c0 n i))) (fun u : (Nat) × (Nat → Int32) × (Nat → Int32) => match u with | (lv2, of2, oc2) => [(y0, .inr (3, [.ref y1, .ref y2, .int (nI (lv2))])), (y1, .inl (cy 0, 10, .inl (of2))), (y2, .inl (cy 0, 10, .inl (oc2)))]) (va_A [(y0, .inr (3, [.ref y1, .ref y2, .int (nI (lv))])), (y1, .inl (cy 0, 10, .inl (of))), (y2, .inl (cy 0, 10, .inl (oc)))] sz)) 0 0 (va_A [(y0, .inr (3, [.ref y1, .ref y2, .int (nI (lv))])), (y1, .inl (cy 0, 10, .inl (of))), (y2, .inl (cy 0, 10, .inl (oc)))] sz) := by
  refine M_ofW (cc := cX3_lead) (maxL := 6) (ret := none) (by decide) rfl (Nat.le_of_ble_eq_true rfl) ?_
  intro p e s m below meth c A ls args Q hQ S0 hr hlocks hnm hK hst hA hW hl
  have hx := S0.1; have hb := S0.2.1; have hml := S0.2.2.1; have hown := S0.2.2.2.1; have hts := S0.2.2.2.2
  have hl : lv_has ls 6 [(0, .ref y0), (1, .int (nI (n))), (2, .int (nI (c0)))] := hl
  refine lv_iconst (v := nI (0)) hx hb dX3_lead_0 (by decide) ?_
  refine lv_istore_n (lv' := [(3, .int (nI (0))), (0, .ref y0), (1, .int (nI (n))), (2, .int (nI (c0)))]) hx hb dX3_lead_1 rfl hl (by decide) rfl (fun ls hl => ?_)
  refine lv_iload_n hx hb dX3_lead_2 rfl (lv_at hl 2 rfl) ?_
  refine lv_istore (lv' := [(4, .int (nI (n))), (3, .int (nI (0))), (0, .ref y0), (1, .int (nI (n))), (2, .int (nI (c0)))]) hx hb dX3_lead_3 hl (by decide) rfl (fun ls hl => ?_)
  refine lv_aload_n hx hb dX3_lead_5 rfl (lv_at hl 2 rfl) ?_
  refine lv_iconst (v := nI (0)) hx hb dX3_lead_6 (by decide) ?_
  refine va_put (D := D) (ci := 3) (v := .int (nI (0))) (ty := .int) (C := RX3) (T := TX3) (N := 3) hx hb hts i_X3_lead_X3 tyX3 tyX3_ok nmX3 hown hK hW.1 hW.2.1 hW.2.2 0 rfl rfl 2 (by decide) (hts (.fieldLink RX3 16 "TreeHashes$Way" "levels" "I") f_X3_lead_0) (fun _ h9 => h9) rfl (by decide +kernel) rfl rfl (Nat.le_of_ble_eq_true rfl) dX3_lead_7 (fun H locs hP hD hS => ?_)
  have hW : Wd D A s [(y0, .inr (3, [.ref y1, .ref y2, .int (nI (0))])), (y1, .inl (cy 0, 10, .inl (of))), (y2, .inl (cy 0, 10, .inl (oc)))] H locs := ⟨hP, hD, hS⟩
  have loop10 : ∀ (nF : Nat) (i : Nat) (fi : Nat) (nu : Nat) (fx : Nat → Int32) (cx : Nat → Int32), 10 - i < nF → (i ≤ 10) → (wyS c0 n i = (fi, nu)) → (∀ j, j < i → 1 < (wyS c0 n j).2) → (∀ j, j < i → fx j = nI (wyF c0 n j) ∧ cx j = nI (wyC c0 n j)) → ∀ (H : Heap) (locs : List Loc), Wd D A s [(y0, .inr (3, [.ref y1, .ref y2, .int (nI (i))])), (y1, .inl (cy 0, 10, .inl (fx))), (y2, .inl (cy 0, 10, .inl (cx)))] H locs → ∀ ls : Array Slot, lv_has ls 6 [(0, .ref y0), (1, .int (nI (n))), (2, .int (nI (c0))), (3, .int (nI (fi))), (4, .int (nI (nu)))] → W p l e ({ frames := 1, cells := 0, slots := 0, locals := 22 }) s m args below meth c H locs 0 0 Q (F0 m 10 ls []) := by
    intro nF
    induction nF with
    | zero => intro i fi nu fx cx hf; exact absurd hf (Nat.not_lt_zero _)
    | succ nF ih =>
      intro i fi nu fx cx hf hi10 hst2 hlt harr H locs hW ls hl
      have hb9 := wyS_b hc0 i
      rw [hst2] at hb9
      have hb8 : fi + nu ≤ n ∧ fi ≤ c0 ∧ c0 < fi + nu := hb9
      have hb7 : nu ≤ 2 ^ (10 - i) := by have := wyS_p (c := c0) (n := n) (k := 10) (by omega) hi10; rw [hst2] at this; exact this
      refine lv_iload hx hb dX3_lead_10 (lv_at hl 4 rfl) ?_
      refine lv_iconst (v := nI (1)) hx hb dX3_lead_12 (by decide) ?_
      refine iLe (a := nu) (b := 1) (tgt := 120) hx hb dX3_lead_13 (by decide) (by omega) (by omega) (fun h13 => ?_) (fun h13 => ?_)
      · skip
        exact eV hQ hx hb hr hlocks hK hW (i, fx, cx) (⟨⟨by rw [hst2]; exact h13, hlt⟩, harr⟩) (rfl) dX3_lead_120
      · skip
        refine lv_aload_n hx hb dX3_lead_16 rfl (lv_at hl 0 rfl) ?_
        refine va_get (D := D) (ci := 3) (v := .int (nI (i))) (C := RX3) (T := TX3) (N := 3) hx hb hts i_X3_lead_X3 hown hK hW.1 0 rfl rfl 2 (by decide) (hts (.fieldLink RX3 16 "TreeHashes$Way" "levels" "I") f_X3_lead_0) (fun _ h9 => h9) rfl dX3_lead_17 ?_
        refine lv_bipush (v := nI (10)) hx hb dX3_lead_20 (by decide) ?_
        refine iGe (a := i) (b := 10) (tgt := 120) hx hb dX3_lead_22 (by decide) (by omega) (by omega) (fun h22 => ?_) (fun h22 => ?_)
        · skip
          exfalso; rw [show i = 10 from by omega] at hb7; have hb6 : nu ≤ 1 := hb7; omega
        · skip
          refine lv_iload hx hb dX3_lead_25 (lv_at hl 4 rfl) ?_
          refine kSi (As := [.int (nI (nu))]) (rest := []) S0 hK hst hA hW [] (fun sz => c_X3_leftOf l D cy t nu (by omega) sz) rfl (by decide) (va_cwS 1 hts gX3_lead_X3_leftOf rfl rfl rfl (by decide +kernel) ⟨Nat.le_of_ble_eq_true rfl, Nat.le_of_ble_eq_true rfl⟩) (fun _ => rfl) rfl hl.1 rfl (Nat.le_of_ble_eq_true rfl) dX3_lead_27 ⟨Nat.le_of_ble_eq_true rfl, Nat.le_of_ble_eq_true rfl⟩ (fun r27 u27 H locs p27 hW => ?_)
          have hW : Wd D A s [(y0, .inr (3, [.ref y1, .ref y2, .int (nI (i))])), (y1, .inl (cy 0, 10, .inl (fx))), (y2, .inl (cy 0, 10, .inl (cx)))] H locs := hW
          have q27 : r27 = nI (lft nu) := p27
          subst q27
          refine lv_istore (lv' := [(5, .int (nI (lft nu))), (0, .ref y0), (1, .int (nI (n))), (2, .int (nI (c0))), (3, .int (nI (fi))), (4, .int (nI (nu)))]) hx hb dX3_lead_30 hl (by decide) rfl (fun ls hl => ?_)
          have hb5 := lft_lt h13
          have hb4 := lft_pos nu
          refine lv_iload_n hx hb dX3_lead_32 rfl (lv_at hl 3 rfl) ?_
          refine lv_iload_n hx hb dX3_lead_33 rfl (lv_at hl 4 rfl) ?_
          refine lv_iload hx hb dX3_lead_34 (lv_at hl 0 rfl) ?_
          refine lv_iadd hx hb dX3_lead_36 ?_
          refine tI (nI_add _ _) ?_
          refine iGe (a := c0) (b := fi + (lft nu)) (tgt := 74) hx hb dX3_lead_37 (by decide) (by omega) (by omega) (fun h37 => ?_) (fun h37 => ?_)
          · skip
            refine lv_aload_n hx hb dX3_lead_74 rfl (lv_at hl 1 rfl) ?_
            refine va_get (D := D) (ci := 3) (v := .ref y1) (C := RX3) (T := TX3) (N := 3) hx hb hts i_X3_lead_X3 hown hK hW.1 0 rfl rfl 0 (by decide) (hts (.fieldLink RX3 9 "TreeHashes$Way" "otherFirst" "[I") f_X3_lead_2) (fun _ h9 => h9) rfl dX3_lead_75 ?_
            refine lv_aload_n hx hb dX3_lead_78 rfl (lv_at hl 1 rfl) ?_
            refine va_get (D := D) (ci := 3) (v := .int (nI (i))) (C := RX3) (T := TX3) (N := 3) hx hb hts i_X3_lead_X3 hown hK hW.1 0 rfl rfl 2 (by decide) (hts (.fieldLink RX3 16 "TreeHashes$Way" "levels" "I") f_X3_lead_0) (fun _ h9 => h9) rfl dX3_lead_79 ?_
            refine lv_iload_n hx hb dX3_lead_82 rfl (lv_at hl 4 rfl) ?_
            refine wI hx hb hK hW 1 rfl (k := i) (by omega) (by omega) dX3_lead_83 (fun H locs hW => ?_)
            have hW : Wd D A s [(y0, .inr (3, [.ref y1, .ref y2, .int (nI (i))])), (y1, .inl (cy 0, 10, .inl (upd fx i (nI (fi))))), (y2, .inl (cy 0, 10, .inl (cx)))] H locs := hW
            refine lv_aload_n hx hb dX3_lead_84 rfl (lv_at hl 1 rfl) ?_
            refine va_get (D := D) (ci := 3) (v := .ref y2) (C := RX3) (T := TX3) (N := 3) hx hb hts i_X3_lead_X3 hown hK hW.1 0 rfl rfl 1 (by decide) (hts (.fieldLink RX3 13 "TreeHashes$Way" "otherChunks" "[I") f_X3_lead_3) (fun _ h9 => h9) rfl dX3_lead_85 ?_
            refine lv_aload_n hx hb dX3_lead_88 rfl (lv_at hl 1 rfl) ?_
            refine va_get (D := D) (ci := 3) (v := .int (nI (i))) (C := RX3) (T := TX3) (N := 3) hx hb hts i_X3_lead_X3 hown hK hW.1 0 rfl rfl 2 (by decide) (hts (.fieldLink RX3 16 "TreeHashes$Way" "levels" "I") f_X3_lead_0) (fun _ h9 => h9) rfl dX3_lead_89 ?_
            refine lv_iload hx hb dX3_lead_92 (lv_at hl 0 rfl) ?_
            refine wI hx hb hK hW 2 rfl (k := i) (by omega) (by omega) dX3_lead_94 (fun H locs hW => ?_)
            have hW : Wd D A s [(y0, .inr (3, [.ref y1, .ref y2, .int (nI (i))])), (y1, .inl (cy 0, 10, .inl (upd fx i (nI (fi))))), (y2, .inl (cy 0, 10, .inl (upd cx i (nI (lft nu)))))] H locs := hW
            refine lv_iload_n hx hb dX3_lead_95 rfl (lv_at hl 4 rfl) ?_
            refine lv_iload hx hb dX3_lead_96 (lv_at hl 0 rfl) ?_
            refine lv_iadd hx hb dX3_lead_98 ?_
            refine tI (nI_add _ _) ?_
            refine lv_istore_n (lv' := [(3, .int (nI (fi + (lft nu)))), (5, .int (nI (lft nu))), (0, .ref y0), (1, .int (nI (n))), (2, .int (nI (c0))), (4, .int (nI (nu)))]) hx hb dX3_lead_99 rfl hl (by decide) rfl (fun ls hl => ?_)
            refine lv_iload hx hb dX3_lead_100 (lv_at hl 5 rfl) ?_
            refine lv_iload hx hb dX3_lead_102 (lv_at hl 1 rfl) ?_
            refine lv_isub hx hb dX3_lead_104 ?_
            refine tI (pk_sub (by omega)) ?_
            refine lv_istore (lv' := [(4, .int (nI (nu - (lft nu)))), (3, .int (nI (fi + (lft nu)))), (5, .int (nI (lft nu))), (0, .ref y0), (1, .int (nI (n))), (2, .int (nI (c0)))]) hx hb dX3_lead_105 hl (by decide) rfl (fun ls hl => ?_)
            refine lv_aload_n hx hb dX3_lead_107 rfl (lv_at hl 3 rfl) ?_
            refine lv_dup hx hb dX3_lead_108 rfl ?_
            refine va_get (D := D) (ci := 3) (v := .int (nI (i))) (C := RX3) (T := TX3) (N := 3) hx hb hts i_X3_lead_X3 hown hK hW.1 0 rfl rfl 2 (by decide) (hts (.fieldLink RX3 16 "TreeHashes$Way" "levels" "I") f_X3_lead_0) (fun _ h9 => h9) rfl dX3_lead_109 ?_
            refine lv_iconst (v := nI (1)) hx hb dX3_lead_112 (by decide) ?_
            refine lv_iadd hx hb dX3_lead_113 ?_
            refine tI (nI_add _ _) ?_
            refine va_put (D := D) (ci := 3) (v := .int (nI (i + 1))) (ty := .int) (C := RX3) (T := TX3) (N := 3) hx hb hts i_X3_lead_X3 tyX3 tyX3_ok nmX3 hown hK hW.1 hW.2.1 hW.2.2 0 rfl rfl 2 (by decide) (hts (.fieldLink RX3 16 "TreeHashes$Way" "levels" "I") f_X3_lead_0) (fun _ h9 => h9) rfl (by decide +kernel) rfl rfl (Nat.le_of_ble_eq_true rfl) dX3_lead_114 (fun H locs hP hD hS => ?_)
            have hW : Wd D A s [(y0, .inr (3, [.ref y1, .ref y2, .int (nI (i + 1))])), (y1, .inl (cy 0, 10, .inl (upd fx i (nI (fi))))), (y2, .inl (cy 0, 10, .inl (upd cx i (nI (lft nu)))))] H locs := ⟨hP, hD, hS⟩
            refine lv_goto (tgt := 10) hx hb dX3_lead_117 (by decide) ?_
            obtain ⟨e1, e2, e3⟩ := wyS_r hst2 h37
            exact ih (i + 1) (fi + (lft nu)) (nu - (lft nu)) (upd fx i (nI (fi))) (upd cx i (nI (lft nu))) (by omega) (by omega) (e1) (by intro j hj; rcases Nat.lt_succ_iff_lt_or_eq.mp hj with q | q; (exact hlt j q); (rw [q, hst2]; exact h13)) (by intro j hj; rcases Nat.lt_succ_iff_lt_or_eq.mp hj with q | q; (rw [pk_un (by omega), pk_un (by omega)]; exact harr j q); (rw [q, pk_us, pk_us, e2, e3]; exact ⟨rfl, rfl⟩)) _ _ hW _ (lv_sub hl [3, 4, 5, 1, 0] rfl)
          · skip
            refine lv_aload_n hx hb dX3_lead_40 rfl (lv_at hl 1 rfl) ?_
            refine va_get (D := D) (ci := 3) (v := .ref y1) (C := RX3) (T := TX3) (N := 3) hx hb hts i_X3_lead_X3 hown hK hW.1 0 rfl rfl 0 (by decide) (hts (.fieldLink RX3 9 "TreeHashes$Way" "otherFirst" "[I") f_X3_lead_2) (fun _ h9 => h9) rfl dX3_lead_41 ?_
            refine lv_aload_n hx hb dX3_lead_44 rfl (lv_at hl 1 rfl) ?_
            refine va_get (D := D) (ci := 3) (v := .int (nI (i))) (C := RX3) (T := TX3) (N := 3) hx hb hts i_X3_lead_X3 hown hK hW.1 0 rfl rfl 2 (by decide) (hts (.fieldLink RX3 16 "TreeHashes$Way" "levels" "I") f_X3_lead_0) (fun _ h9 => h9) rfl dX3_lead_45 ?_
            refine lv_iload_n hx hb dX3_lead_48 rfl (lv_at hl 4 rfl) ?_
            refine lv_iload hx hb dX3_lead_49 (lv_at hl 0 rfl) ?_
            refine lv_iadd hx hb dX3_lead_51 ?_
            refine tI (nI_add _ _) ?_
            refine wI hx hb hK hW 1 rfl (k := i) (by omega) (by omega) dX3_lead_52 (fun H locs hW => ?_)
            have hW : Wd D A s [(y0, .inr (3, [.ref y1, .ref y2, .int (nI (i))])), (y1, .inl (cy 0, 10, .inl (upd fx i (nI (fi + (lft nu)))))), (y2, .inl (cy 0, 10, .inl (cx)))] H locs := hW
            refine lv_aload_n hx hb dX3_lead_53 rfl (lv_at hl 1 rfl) ?_
            refine va_get (D := D) (ci := 3) (v := .ref y2) (C := RX3) (T := TX3) (N := 3) hx hb hts i_X3_lead_X3 hown hK hW.1 0 rfl rfl 1 (by decide) (hts (.fieldLink RX3 13 "TreeHashes$Way" "otherChunks" "[I") f_X3_lead_3) (fun _ h9 => h9) rfl dX3_lead_54 ?_
            refine lv_aload_n hx hb dX3_lead_57 rfl (lv_at hl 1 rfl) ?_
            refine va_get (D := D) (ci := 3) (v := .int (nI (i))) (C := RX3) (T := TX3) (N := 3) hx hb hts i_X3_lead_X3 hown hK hW.1 0 rfl rfl 2 (by decide) (hts (.fieldLink RX3 16 "TreeHashes$Way" "levels" "I") f_X3_lead_0) (fun _ h9 => h9) rfl dX3_lead_58 ?_
            refine lv_iload hx hb dX3_lead_61 (lv_at hl 5 rfl) ?_
            refine lv_iload hx hb dX3_lead_63 (lv_at hl 0 rfl) ?_
            refine lv_isub hx hb dX3_lead_65 ?_
            refine tI (pk_sub (by omega)) ?_
            refine wI hx hb hK hW 2 rfl (k := i) (by omega) (by omega) dX3_lead_66 (fun H locs hW => ?_)
            have hW : Wd D A s [(y0, .inr (3, [.ref y1, .ref y2, .int (nI (i))])), (y1, .inl (cy 0, 10, .inl (upd fx i (nI (fi + (lft nu)))))), (y2, .inl (cy 0, 10, .inl (upd cx i (nI (nu - (lft nu))))))] H locs := hW
            refine lv_iload hx hb dX3_lead_67 (lv_at hl 0 rfl) ?_
            refine lv_istore (lv' := [(4, .int (nI (lft nu))), (5, .int (nI (lft nu))), (0, .ref y0), (1, .int (nI (n))), (2, .int (nI (c0))), (3, .int (nI (fi)))]) hx hb dX3_lead_69 hl (by decide) rfl (fun ls hl => ?_)
            refine lv_goto (tgt := 107) hx hb dX3_lead_71 (by decide) ?_
            refine lv_aload_n hx hb dX3_lead_107 rfl (lv_at hl 2 rfl) ?_
            refine lv_dup hx hb dX3_lead_108 rfl ?_
            refine va_get (D := D) (ci := 3) (v := .int (nI (i))) (C := RX3) (T := TX3) (N := 3) hx hb hts i_X3_lead_X3 hown hK hW.1 0 rfl rfl 2 (by decide) (hts (.fieldLink RX3 16 "TreeHashes$Way" "levels" "I") f_X3_lead_0) (fun _ h9 => h9) rfl dX3_lead_109 ?_
            refine lv_iconst (v := nI (1)) hx hb dX3_lead_112 (by decide) ?_
            refine lv_iadd hx hb dX3_lead_113 ?_
            refine tI (nI_add _ _) ?_
            refine va_put (D := D) (ci := 3) (v := .int (nI (i + 1))) (ty := .int) (C := RX3) (T := TX3) (N := 3) hx hb hts i_X3_lead_X3 tyX3 tyX3_ok nmX3 hown hK hW.1 hW.2.1 hW.2.2 0 rfl rfl 2 (by decide) (hts (.fieldLink RX3 16 "TreeHashes$Way" "levels" "I") f_X3_lead_0) (fun _ h9 => h9) rfl (by decide +kernel) rfl rfl (Nat.le_of_ble_eq_true rfl) dX3_lead_114 (fun H locs hP hD hS => ?_)
            have hW : Wd D A s [(y0, .inr (3, [.ref y1, .ref y2, .int (nI (i + 1))])), (y1, .inl (cy 0, 10, .inl (upd fx i (nI (fi + (lft nu)))))), (y2, .inl (cy 0, 10, .inl (upd cx i (nI (nu - (lft nu))))))] H locs := ⟨hP, hD, hS⟩
            refine lv_goto (tgt := 10) hx hb dX3_lead_117 (by decide) ?_
            obtain ⟨e1, e2, e3⟩ := wyS_l hst2 h37
            exact ih (i + 1) fi (lft nu) (upd fx i (nI (fi + (lft nu)))) (upd cx i (nI (nu - (lft nu)))) (by omega) (by omega) (e1) (by intro j hj; rcases Nat.lt_succ_iff_lt_or_eq.mp hj with q | q; (exact hlt j q); (rw [q, hst2]; exact h13)) (by intro j hj; rcases Nat.lt_succ_iff_lt_or_eq.mp hj with q | q; (rw [pk_un (by omega), pk_un (by omega)]; exact harr j q); (rw [q, pk_us, pk_us, e2, e3]; exact ⟨rfl, rfl⟩)) _ _ hW _ (lv_sub hl [2, 3, 4, 5, 0] rfl)
  exact loop10 _ 0 0 n of oc (Nat.lt_succ_self _) (by omega) (rfl) (lt_0) (lt_0) _ _ hW _ (lv_sub hl [2, 3, 4, 1, 0] rfl)
end
