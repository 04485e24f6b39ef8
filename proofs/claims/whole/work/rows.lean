section
def lw_okq (q : MethodName × Nat) : Prop := (q.1.cls ≠ "java/lang/invoke/MethodHandle" ∧ q.1.cls ≠ "java/lang/invoke/VarHandle") ∧ Cond.instantiable q.1.cls q.2 ∈ tables_1 ∧ Cond.privateMethod q.1 ∈ tables_1 ∧ Cond.instanceMethod q.1 ∈ tables_1
theorem lw_p0 : lw_okq (⟨"TreeHashes$Hasher", "startChunk", "()V"⟩, 13) := ⟨⟨by decide +kernel, by decide +kernel⟩, List.mem_of_getElem? (i := 37) (by decide +kernel), List.mem_of_getElem? (i := 84) (by decide +kernel), List.mem_of_getElem? (i := 85) (by decide +kernel)⟩
theorem lw_p1 : lw_okq (⟨"TreeHashes$Hasher", "startBlock", "()V"⟩, 13) := ⟨⟨by decide +kernel, by decide +kernel⟩, List.mem_of_getElem? (i := 37) (by decide +kernel), List.mem_of_getElem? (i := 88) (by decide +kernel), List.mem_of_getElem? (i := 89) (by decide +kernel)⟩
theorem lw_p2 : lw_okq (⟨"TreeHashes$Bytes", "wordAt", "(I)I"⟩, 2) := ⟨⟨by decide +kernel, by decide +kernel⟩, List.mem_of_getElem? (i := 20) (by decide +kernel), List.mem_of_getElem? (i := 226) (by decide +kernel), List.mem_of_getElem? (i := 227) (by decide +kernel)⟩
theorem lw_p3 : lw_okq (⟨"TreeHashes", "deriveKey", "(LTreeHashes$Bytes;)V"⟩, 7) := ⟨⟨by decide +kernel, by decide +kernel⟩, List.mem_of_getElem? (i := 9) (by decide +kernel), List.mem_of_getElem? (i := 231) (by decide +kernel), List.mem_of_getElem? (i := 232) (by decide +kernel)⟩
theorem lw_p4 : lw_okq (⟨"TreeHashes$Hasher", "closeChunk", "()V"⟩, 13) := ⟨⟨by decide +kernel, by decide +kernel⟩, List.mem_of_getElem? (i := 37) (by decide +kernel), List.mem_of_getElem? (i := 244) (by decide +kernel), List.mem_of_getElem? (i := 245) (by decide +kernel)⟩
theorem lw_p5 : lw_okq (⟨"TreeHashes$Hasher", "prepareBlock", "(I)V"⟩, 13) := ⟨⟨by decide +kernel, by decide +kernel⟩, List.mem_of_getElem? (i := 37) (by decide +kernel), List.mem_of_getElem? (i := 248) (by decide +kernel), List.mem_of_getElem? (i := 249) (by decide +kernel)⟩
theorem lw_p6 : lw_okq (⟨"TreeHashes$Mix", "fillIn", "()V"⟩, 8) := ⟨⟨by decide +kernel, by decide +kernel⟩, List.mem_of_getElem? (i := 43) (by decide +kernel), List.mem_of_getElem? (i := 260) (by decide +kernel), List.mem_of_getElem? (i := 261) (by decide +kernel)⟩
theorem lw_p7 : lw_okq (⟨"TreeHashes$Mix", "turn", "(IIIIII)V"⟩, 8) := ⟨⟨by decide +kernel, by decide +kernel⟩, List.mem_of_getElem? (i := 43) (by decide +kernel), List.mem_of_getElem? (i := 265) (by decide +kernel), List.mem_of_getElem? (i := 266) (by decide +kernel)⟩
theorem lw_p8 : lw_okq (⟨"TreeHashes$Mix", "reorder", "()V"⟩, 8) := ⟨⟨by decide +kernel, by decide +kernel⟩, List.mem_of_getElem? (i := 43) (by decide +kernel), List.mem_of_getElem? (i := 269) (by decide +kernel), List.mem_of_getElem? (i := 270) (by decide +kernel)⟩
theorem lw_p9 : lw_okq (⟨"TreeHashes$Hasher", "closeBlock", "()V"⟩, 13) := ⟨⟨by decide +kernel, by decide +kernel⟩, List.mem_of_getElem? (i := 37) (by decide +kernel), List.mem_of_getElem? (i := 284) (by decide +kernel), List.mem_of_getElem? (i := 285) (by decide +kernel)⟩
theorem lw_p10 : lw_okq (⟨"TreeHashes$Mix", "outputByte", "(I)I"⟩, 8) := ⟨⟨by decide +kernel, by decide +kernel⟩, List.mem_of_getElem? (i := 43) (by decide +kernel), List.mem_of_getElem? (i := 321) (by decide +kernel), List.mem_of_getElem? (i := 322) (by decide +kernel)⟩
theorem lw_p11 : lw_okq (⟨"TreeHashes", "prepareTree", "(LTreeHashes$Bytes;III)V"⟩, 7) := ⟨⟨by decide +kernel, by decide +kernel⟩, List.mem_of_getElem? (i := 9) (by decide +kernel), List.mem_of_getElem? (i := 370) (by decide +kernel), List.mem_of_getElem? (i := 371) (by decide +kernel)⟩
theorem lw_p12 : lw_okq (⟨"TreeHashes", "climb", "(II)V"⟩, 7) := ⟨⟨by decide +kernel, by decide +kernel⟩, List.mem_of_getElem? (i := 9) (by decide +kernel), List.mem_of_getElem? (i := 423) (by decide +kernel), List.mem_of_getElem? (i := 424) (by decide +kernel)⟩
theorem lw_p13 : lw_okq (⟨"TreeHashesModel", "plain", "(I)V"⟩, 28) := ⟨⟨by decide +kernel, by decide +kernel⟩, List.mem_of_getElem? (i := 437) (by decide +kernel), List.mem_of_getElem? (i := 454) (by decide +kernel), List.mem_of_getElem? (i := 455) (by decide +kernel)⟩
theorem lw_p14 : lw_okq (⟨"TreeHashesModel", "useKey", "(I)V"⟩, 28) := ⟨⟨by decide +kernel, by decide +kernel⟩, List.mem_of_getElem? (i := 437) (by decide +kernel), List.mem_of_getElem? (i := 574) (by decide +kernel), List.mem_of_getElem? (i := 575) (by decide +kernel)⟩
theorem lw_p15 : lw_okq (⟨"TreeHashesModel", "chunk", "([IIIJ)V"⟩, 28) := ⟨⟨by decide +kernel, by decide +kernel⟩, List.mem_of_getElem? (i := 437) (by decide +kernel), List.mem_of_getElem? (i := 578) (by decide +kernel), List.mem_of_getElem? (i := 579) (by decide +kernel)⟩
def lw_privs_1 : List (MethodName × Nat) := [(⟨"TreeHashes$Hasher", "startChunk", "()V"⟩, 13), (⟨"TreeHashes$Hasher", "startBlock", "()V"⟩, 13), (⟨"TreeHashes$Bytes", "wordAt", "(I)I"⟩, 2), (⟨"TreeHashes", "deriveKey", "(LTreeHashes$Bytes;)V"⟩, 7), (⟨"TreeHashes$Hasher", "closeChunk", "()V"⟩, 13), (⟨"TreeHashes$Hasher", "prepareBlock", "(I)V"⟩, 13), (⟨"TreeHashes$Mix", "fillIn", "()V"⟩, 8), (⟨"TreeHashes$Mix", "turn", "(IIIIII)V"⟩, 8), (⟨"TreeHashes$Mix", "reorder", "()V"⟩, 8), (⟨"TreeHashes$Hasher", "closeBlock", "()V"⟩, 13), (⟨"TreeHashes$Mix", "outputByte", "(I)I"⟩, 8), (⟨"TreeHashes", "prepareTree", "(LTreeHashes$Bytes;III)V"⟩, 7), (⟨"TreeHashes", "climb", "(II)V"⟩, 7), (⟨"TreeHashesModel", "plain", "(I)V"⟩, 28), (⟨"TreeHashesModel", "useKey", "(I)V"⟩, 28), (⟨"TreeHashesModel", "chunk", "([IIIJ)V"⟩, 28)]
theorem lw_r1 : ∀ q ∈ lw_privs_1, lw_okq q := List.forall_mem_cons.mpr ⟨lw_p0, List.forall_mem_cons.mpr ⟨lw_p1, List.forall_mem_cons.mpr ⟨lw_p2, List.forall_mem_cons.mpr ⟨lw_p3, List.forall_mem_cons.mpr ⟨lw_p4, List.forall_mem_cons.mpr ⟨lw_p5, List.forall_mem_cons.mpr ⟨lw_p6, List.forall_mem_cons.mpr ⟨lw_p7, List.forall_mem_cons.mpr ⟨lw_p8, List.forall_mem_cons.mpr ⟨lw_p9, List.forall_mem_cons.mpr ⟨lw_p10, List.forall_mem_cons.mpr ⟨lw_p11, List.forall_mem_cons.mpr ⟨lw_p12, List.forall_mem_cons.mpr ⟨lw_p13, List.forall_mem_cons.mpr ⟨lw_p14, List.forall_mem_cons.mpr ⟨lw_p15, fun _ h => absurd h List.not_mem_nil⟩⟩⟩⟩⟩⟩⟩⟩⟩⟩⟩⟩⟩⟩⟩⟩
theorem lw_p16 : lw_okq (⟨"TreeHashesModel", "mixIn", "()V"⟩, 28) := ⟨⟨by decide +kernel, by decide +kernel⟩, List.mem_of_getElem? (i := 437) (by decide +kernel), List.mem_of_getElem? (i := 582) (by decide +kernel), List.mem_of_getElem? (i := 583) (by decide +kernel)⟩
theorem lw_p17 : lw_okq (⟨"TreeHashesModel", "mix", "(JI)V"⟩, 28) := ⟨⟨by decide +kernel, by decide +kernel⟩, List.mem_of_getElem? (i := 437) (by decide +kernel), List.mem_of_getElem? (i := 586) (by decide +kernel), List.mem_of_getElem? (i := 587) (by decide +kernel)⟩
theorem lw_p18 : lw_okq (⟨"TreeHashesModel", "turn", "(IIIII)V"⟩, 28) := ⟨⟨by decide +kernel, by decide +kernel⟩, List.mem_of_getElem? (i := 437) (by decide +kernel), List.mem_of_getElem? (i := 590) (by decide +kernel), List.mem_of_getElem? (i := 591) (by decide +kernel)⟩
theorem lw_p19 : lw_okq (⟨"TreeHashesModel", "rootOf", "(I)V"⟩, 28) := ⟨⟨by decide +kernel, by decide +kernel⟩, List.mem_of_getElem? (i := 437) (by decide +kernel), List.mem_of_getElem? (i := 614) (by decide +kernel), List.mem_of_getElem? (i := 615) (by decide +kernel)⟩
theorem lw_p20 : lw_okq (⟨"TreeHashesModel", "pileOf", "(I)V"⟩, 28) := ⟨⟨by decide +kernel, by decide +kernel⟩, List.mem_of_getElem? (i := 437) (by decide +kernel), List.mem_of_getElem? (i := 618) (by decide +kernel), List.mem_of_getElem? (i := 619) (by decide +kernel)⟩
theorem lw_p21 : lw_okq (⟨"TreeHashesModel", "closedOf", "(I)I"⟩, 28) := ⟨⟨by decide +kernel, by decide +kernel⟩, List.mem_of_getElem? (i := 437) (by decide +kernel), List.mem_of_getElem? (i := 622) (by decide +kernel), List.mem_of_getElem? (i := 623) (by decide +kernel)⟩
theorem lw_p22 : lw_okq (⟨"TreeHashesModel", "beginPile", "()V"⟩, 28) := ⟨⟨by decide +kernel, by decide +kernel⟩, List.mem_of_getElem? (i := 437) (by decide +kernel), List.mem_of_getElem? (i := 626) (by decide +kernel), List.mem_of_getElem? (i := 627) (by decide +kernel)⟩
theorem lw_p23 : lw_okq (⟨"TreeHashesModel", "close", "()V"⟩, 28) := ⟨⟨by decide +kernel, by decide +kernel⟩, List.mem_of_getElem? (i := 437) (by decide +kernel), List.mem_of_getElem? (i := 630) (by decide +kernel), List.mem_of_getElem? (i := 631) (by decide +kernel)⟩
theorem lw_p24 : lw_okq (⟨"TreeHashesModel", "parent", "()V"⟩, 28) := ⟨⟨by decide +kernel, by decide +kernel⟩, List.mem_of_getElem? (i := 437) (by decide +kernel), List.mem_of_getElem? (i := 634) (by decide +kernel), List.mem_of_getElem? (i := 635) (by decide +kernel)⟩
theorem lw_p25 : lw_okq (⟨"TreeHashesModel", "tree", "([IIIII)V"⟩, 28) := ⟨⟨by decide +kernel, by decide +kernel⟩, List.mem_of_getElem? (i := 437) (by decide +kernel), List.mem_of_getElem? (i := 672) (by decide +kernel), List.mem_of_getElem? (i := 673) (by decide +kernel)⟩
def lw_privs_2 : List (MethodName × Nat) := [(⟨"TreeHashesModel", "mixIn", "()V"⟩, 28), (⟨"TreeHashesModel", "mix", "(JI)V"⟩, 28), (⟨"TreeHashesModel", "turn", "(IIIII)V"⟩, 28), (⟨"TreeHashesModel", "rootOf", "(I)V"⟩, 28), (⟨"TreeHashesModel", "pileOf", "(I)V"⟩, 28), (⟨"TreeHashesModel", "closedOf", "(I)I"⟩, 28), (⟨"TreeHashesModel", "beginPile", "()V"⟩, 28), (⟨"TreeHashesModel", "close", "()V"⟩, 28), (⟨"TreeHashesModel", "parent", "()V"⟩, 28), (⟨"TreeHashesModel", "tree", "([IIIII)V"⟩, 28)]
theorem lw_r2 : ∀ q ∈ lw_privs_2, lw_okq q := List.forall_mem_cons.mpr ⟨lw_p16, List.forall_mem_cons.mpr ⟨lw_p17, List.forall_mem_cons.mpr ⟨lw_p18, List.forall_mem_cons.mpr ⟨lw_p19, List.forall_mem_cons.mpr ⟨lw_p20, List.forall_mem_cons.mpr ⟨lw_p21, List.forall_mem_cons.mpr ⟨lw_p22, List.forall_mem_cons.mpr ⟨lw_p23, List.forall_mem_cons.mpr ⟨lw_p24, List.forall_mem_cons.mpr ⟨lw_p25, fun _ h => absurd h List.not_mem_nil⟩⟩⟩⟩⟩⟩⟩⟩⟩⟩
def lw_privs : List (MethodName × Nat) := lw_privs_1 ++ (lw_privs_2)
def lw_tbl : List Cond := k2_sels lw_privs ++ tables_1
theorem lw_privs_ok : ∀ q ∈ lw_privs, lw_okq q := by
  show ∀ q ∈ lw_privs_1 ++ (lw_privs_2), lw_okq q
  exact List.forall_mem_append.mpr ⟨lw_r1, lw_r2⟩
theorem goodIn_r {big : List Cond} (ws : List Cond) (ps : List Nat) (hp : ws = ps.filterMap (fun i => big[i]?)) (h : ws.all goodWord = true) : GoodIn big ws := by
  intro w hw
  have h1 := List.all_eq_true.mp h w hw
  rw [hp] at hw
  obtain ⟨i, -, hi⟩ := List.mem_filterMap.mp hw
  have hm : w ∈ big := by first | exact List.mem_of_getElem? hi | exact List.getElem?_mem hi
  exact ⟨hm, good_of_word h1⟩
theorem goodIn_app {big a b : List Cond} (ha : GoodIn big a) (hb : GoodIn big b) : GoodIn big (a ++ b) := fun w h => (List.mem_append.mp h).elim (ha w) (hb w)
theorem goodIn_ca {big a b : List Cond} {c : Cond} (ha : GoodIn big (c :: a)) (hb : GoodIn big b) : GoodIn big (c :: (a ++ b)) := fun w h => (List.mem_cons.mp h).elim (fun e => ha w (List.mem_cons.mpr (Or.inl e))) (fun h => (List.mem_append.mp h).elim (fun h => ha w (List.mem_cons.mpr (Or.inr h))) (hb w))
theorem goodIn_sub {big ws : List Cond} (hm : ∀ w ∈ ws, w ∈ big) (h : ws.all goodWord = true) : GoodIn big ws := fun w hw => ⟨hm w hw, good_of_word (List.all_eq_true.mp h w hw)⟩

def RX0 : String := "TreeHashes$Bytes"
def TX0 : u_T := fun k => match k with
  | 0 => ("TreeHashes$Bytes", "row", "[B", true)
  | _ => ("TreeHashes$Bytes", "count", "I", false)
def tyX0 : Nat → FieldType := fun k => match k with
  | 0 => .array .byte
  | _ => .int
abbrev wsX00 : List Cond := u_ws RX0 TX0 2
theorem nmX0 : ∀ a, a < 2 → ∀ b, b < 2 → a ≠ b → (TX0 a).2.1 ≠ (TX0 b).2.1 := by decide +kernel
theorem tyX0_ok : ∀ k, k < 2 → parseFieldDescriptor (TX0 k).2.2.1 = some (tyX0 k) := by decide +kernel
abbrev cX0_init : ByteArray := prog_2_method_1_code
def yX0_init : MethodName := ⟨RX0, "<init>", "(I)V"⟩
abbrev cX0_hasRoomFor : ByteArray := prog_2_method_2_code
def yX0_hasRoomFor : MethodName := ⟨RX0, "hasRoomFor", "(I)Z"⟩
abbrev cX0_byteAt : ByteArray := prog_2_method_3_code
def yX0_byteAt : MethodName := ⟨RX0, "byteAt", "(I)I"⟩
abbrev cX0_append : ByteArray := prog_2_method_4_code
def yX0_append : MethodName := ⟨RX0, "append", "(I)V"⟩
abbrev cX0_appendChain : ByteArray := prog_2_method_5_code
def yX0_appendChain : MethodName := ⟨RX0, "appendChain", "([I)V"⟩
abbrev cX0_appendFrom : ByteArray := prog_2_method_6_code
def yX0_appendFrom : MethodName := ⟨RX0, "appendFrom", "(LTreeHashes$Bytes;II)V"⟩
abbrev cX0_keepFirst : ByteArray := prog_2_method_7_code
def yX0_keepFirst : MethodName := ⟨RX0, "keepFirst", "(I)I"⟩
abbrev cX0_change : ByteArray := prog_2_method_8_code
def yX0_change : MethodName := ⟨RX0, "change", "(II)I"⟩
abbrev cX0_readChain : ByteArray := prog_2_method_9_code
def yX0_readChain : MethodName := ⟨RX0, "readChain", "(I[I)V"⟩
abbrev cX0_wordAt : ByteArray := prog_2_method_10_code
def yX0_wordAt : MethodName := ⟨RX0, "wordAt", "(I)I"⟩
def RX1 : String := "TreeHashes$Hasher"
def TX1 : u_T := fun k => match k with
  | 0 => ("TreeHashes$Hasher", "mix", "LTreeHashes$Mix;", true)
  | 1 => ("TreeHashes$Hasher", "key", "[I", true)
  | 2 => ("TreeHashes$Hasher", "stack", "[I", true)
  | 3 => ("TreeHashes$Hasher", "chunkChain", "[I", true)
  | 4 => ("TreeHashes$Hasher", "block", "[I", true)
  | 5 => ("TreeHashes$Hasher", "mode", "I", false)
  | 6 => ("TreeHashes$Hasher", "base", "I", false)
  | 7 => ("TreeHashes$Hasher", "firstChunk", "I", false)
  | 8 => ("TreeHashes$Hasher", "taken", "I", false)
  | 9 => ("TreeHashes$Hasher", "closed", "I", false)
  | 10 => ("TreeHashes$Hasher", "depth", "I", false)
  | 11 => ("TreeHashes$Hasher", "blocks", "I", false)
  | _ => ("TreeHashes$Hasher", "inBlock", "I", false)
def tyX1 : Nat → FieldType := fun k => match k with
  | 0 => .object "TreeHashes$Mix"
  | 1 => .array .int
  | 2 => .array .int
  | 3 => .array .int
  | 4 => .array .int
  | 5 => .int
  | 6 => .int
  | 7 => .int
  | 8 => .int
  | 9 => .int
  | 10 => .int
  | 11 => .int
  | _ => .int
abbrev wsX10 : List Cond := u_ws RX1 TX1 13
theorem nmX1 : ∀ a, a < 13 → ∀ b, b < 13 → a ≠ b → (TX1 a).2.1 ≠ (TX1 b).2.1 := by decide +kernel
theorem tyX1_ok : ∀ k, k < 13 → parseFieldDescriptor (TX1 k).2.2.1 = some (tyX1 k) := by decide +kernel
abbrev cX1_init : ByteArray := prog_3_method_1_code
def yX1_init : MethodName := ⟨RX1, "<init>", "()V"⟩
abbrev cX1_restart : ByteArray := prog_3_method_2_code
def yX1_restart : MethodName := ⟨RX1, "restart", "(II[II)V"⟩
abbrev cX1_becomeAs : ByteArray := prog_3_method_3_code
def yX1_becomeAs : MethodName := ⟨RX1, "becomeAs", "(LTreeHashes$Hasher;)V"⟩
abbrev cX1_absorb : ByteArray := prog_3_method_4_code
def yX1_absorb : MethodName := ⟨RX1, "absorb", "(LTreeHashes$Bytes;II)V"⟩
abbrev cX1_absorbByte : ByteArray := prog_3_method_5_code
def yX1_absorbByte : MethodName := ⟨RX1, "absorbByte", "(I)V"⟩
abbrev cX1_inChunk : ByteArray := prog_3_method_6_code
def yX1_inChunk : MethodName := ⟨RX1, "inChunk", "()I"⟩
abbrev cX1_stackWord : ByteArray := prog_3_method_7_code
def yX1_stackWord : MethodName := ⟨RX1, "stackWord", "(II)I"⟩
abbrev cX1_prepareLast : ByteArray := prog_3_method_8_code
def yX1_prepareLast : MethodName := ⟨RX1, "prepareLast", "()V"⟩
abbrev cX1_prepareBlock : ByteArray := prog_3_method_9_code
def yX1_prepareBlock : MethodName := ⟨RX1, "prepareBlock", "(I)V"⟩
abbrev cX1_closeBlock : ByteArray := prog_3_method_10_code
def yX1_closeBlock : MethodName := ⟨RX1, "closeBlock", "()V"⟩
abbrev cX1_closeChunk : ByteArray := prog_3_method_11_code
def yX1_closeChunk : MethodName := ⟨RX1, "closeChunk", "()V"⟩
abbrev cX1_startChunk : ByteArray := prog_3_method_12_code
def yX1_startChunk : MethodName := ⟨RX1, "startChunk", "()V"⟩
abbrev cX1_startBlock : ByteArray := prog_3_method_13_code
def yX1_startBlock : MethodName := ⟨RX1, "startBlock", "()V"⟩
abbrev cX1_copyWords : ByteArray := prog_3_method_14_code
def yX1_copyWords : MethodName := ⟨RX1, "copyWords", "([I[I)V"⟩
def RX2 : String := "TreeHashes$Mix"
def TX2 : u_T := fun k => match k with
  | 0 => ("TreeHashes$Mix", "chain", "[I", true)
  | 1 => ("TreeHashes$Mix", "block", "[I", true)
  | 2 => ("TreeHashes$Mix", "count", "J", false)
  | 3 => ("TreeHashes$Mix", "length", "I", false)
  | 4 => ("TreeHashes$Mix", "flags", "I", false)
  | 5 => ("TreeHashes$Mix", "v", "[I", true)
  | 6 => ("TreeHashes$Mix", "w", "[I", false)
  | _ => ("TreeHashes$Mix", "nextW", "[I", false)
def tyX2 : Nat → FieldType := fun k => match k with
  | 0 => .array .int
  | 1 => .array .int
  | 2 => .long
  | 3 => .int
  | 4 => .int
  | 5 => .array .int
  | 6 => .array .int
  | _ => .array .int
abbrev wsX20 : List Cond := u_ws RX2 TX2 8
theorem nmX2 : ∀ a, a < 8 → ∀ b, b < 8 → a ≠ b → (TX2 a).2.1 ≠ (TX2 b).2.1 := by decide +kernel
theorem tyX2_ok : ∀ k, k < 8 → parseFieldDescriptor (TX2 k).2.2.1 = some (tyX2 k) := by decide +kernel
abbrev cX2_init : ByteArray := prog_4_method_1_code
def yX2_init : MethodName := ⟨RX2, "<init>", "()V"⟩
abbrev cX2_prepare : ByteArray := prog_4_method_2_code
def yX2_prepare : MethodName := ⟨RX2, "prepare", "([I[IJII)V"⟩
abbrev cX2_joinBehind : ByteArray := prog_4_method_3_code
def yX2_joinBehind : MethodName := ⟨RX2, "joinBehind", "([II[II)V"⟩
abbrev cX2_joinBefore : ByteArray := prog_4_method_4_code
def yX2_joinBefore : MethodName := ⟨RX2, "joinBefore", "([II[II)V"⟩
abbrev cX2_makeRoot : ByteArray := prog_4_method_5_code
def yX2_makeRoot : MethodName := ⟨RX2, "makeRoot", "()V"⟩
abbrev cX2_writeChain : ByteArray := prog_4_method_6_code
def yX2_writeChain : MethodName := ⟨RX2, "writeChain", "([II)V"⟩
abbrev cX2_writeOutput : ByteArray := prog_4_method_7_code
def yX2_writeOutput : MethodName := ⟨RX2, "writeOutput", "(LTreeHashes$Bytes;IJ)V"⟩
abbrev cX2_rootBeginsWith : ByteArray := prog_4_method_8_code
def yX2_rootBeginsWith : MethodName := ⟨RX2, "rootBeginsWith", "(LTreeHashes$Bytes;)Z"⟩
abbrev cX2_outputByte : ByteArray := prog_4_method_9_code
def yX2_outputByte : MethodName := ⟨RX2, "outputByte", "(I)I"⟩
abbrev cX2_run : ByteArray := prog_4_method_10_code
def yX2_run : MethodName := ⟨RX2, "run", "()V"⟩
abbrev cX2_fillIn : ByteArray := prog_4_method_11_code
def yX2_fillIn : MethodName := ⟨RX2, "fillIn", "()V"⟩
abbrev cX2_turn : ByteArray := prog_4_method_12_code
def yX2_turn : MethodName := ⟨RX2, "turn", "(IIIIII)V"⟩
abbrev cX2_reorder : ByteArray := prog_4_method_13_code
def yX2_reorder : MethodName := ⟨RX2, "reorder", "()V"⟩
def RX3 : String := "TreeHashes$Way"
def TX3 : u_T := fun k => match k with
  | 0 => ("TreeHashes$Way", "otherFirst", "[I", true)
  | 1 => ("TreeHashes$Way", "otherChunks", "[I", true)
  | _ => ("TreeHashes$Way", "levels", "I", false)
def tyX3 : Nat → FieldType := fun k => match k with
  | 0 => .array .int
  | 1 => .array .int
  | _ => .int
abbrev wsX30 : List Cond := u_ws RX3 TX3 3
theorem nmX3 : ∀ a, a < 3 → ∀ b, b < 3 → a ≠ b → (TX3 a).2.1 ≠ (TX3 b).2.1 := by decide +kernel
theorem tyX3_ok : ∀ k, k < 3 → parseFieldDescriptor (TX3 k).2.2.1 = some (tyX3 k) := by decide +kernel
abbrev cX3_init : ByteArray := prog_5_method_1_code
def yX3_init : MethodName := ⟨RX3, "<init>", "()V"⟩
abbrev cX3_lead : ByteArray := prog_5_method_2_code
def yX3_lead : MethodName := ⟨RX3, "lead", "(II)V"⟩
abbrev cX3_leftOf : ByteArray := prog_5_method_3_code
def yX3_leftOf : MethodName := ⟨RX3, "leftOf", "(I)I"⟩
def RX4 : String := "TreeHashes"
def TX4 : u_T := fun k => match k with
  | 0 => ("TreeHashes", "registers", "[LTreeHashes$Bytes;", true)
  | 1 => ("TreeHashes", "hashers", "[LTreeHashes$Hasher;", true)
  | 2 => ("TreeHashes", "file", "LTreeHashes$Bytes;", true)
  | 3 => ("TreeHashes", "proven", "LTreeHashes$Bytes;", true)
  | 4 => ("TreeHashes", "worker", "LTreeHashes$Hasher;", true)
  | 5 => ("TreeHashes", "way", "LTreeHashes$Way;", true)
  | _ => ("TreeHashes", "words", "[I", true)
def tyX4 : Nat → FieldType := fun k => match k with
  | 0 => .array (.object "TreeHashes$Bytes")
  | 1 => .array (.object "TreeHashes$Hasher")
  | 2 => .object "TreeHashes$Bytes"
  | 3 => .object "TreeHashes$Bytes"
  | 4 => .object "TreeHashes$Hasher"
  | 5 => .object "TreeHashes$Way"
  | _ => .array .int
abbrev wsX40 : List Cond := u_ws RX4 TX4 7
theorem nmX4 : ∀ a, a < 7 → ∀ b, b < 7 → a ≠ b → (TX4 a).2.1 ≠ (TX4 b).2.1 := by decide +kernel
theorem tyX4_ok : ∀ k, k < 7 → parseFieldDescriptor (TX4 k).2.2.1 = some (tyX4 k) := by decide +kernel
abbrev cX4_init : ByteArray := prog_1_method_1_code
def yX4_init : MethodName := ⟨RX4, "<init>", "()V"⟩
abbrev cX4_add : ByteArray := prog_1_method_2_code
def yX4_add : MethodName := ⟨RX4, "add", "(IIJ)I"⟩
abbrev cX4_clear : ByteArray := prog_1_method_3_code
def yX4_clear : MethodName := ⟨RX4, "clear", "(I)I"⟩
abbrev cX4_size : ByteArray := prog_1_method_4_code
def yX4_size : MethodName := ⟨RX4, "size", "(I)I"⟩
abbrev cX4_at : ByteArray := prog_1_method_5_code
def yX4_at : MethodName := ⟨RX4, "at", "(II)I"⟩
abbrev cX4_begin : ByteArray := prog_1_method_6_code
def yX4_begin : MethodName := ⟨RX4, "begin", "(III)I"⟩
abbrev cX4_take : ByteArray := prog_1_method_7_code
def yX4_take : MethodName := ⟨RX4, "take", "(II)I"⟩
abbrev cX4_fill : ByteArray := prog_1_method_8_code
def yX4_fill : MethodName := ⟨RX4, "fill", "(IIII)I"⟩
abbrev cX4_output : ByteArray := prog_1_method_9_code
def yX4_output : MethodName := ⟨RX4, "output", "(IIIJ)I"⟩
abbrev cX4_copy : ByteArray := prog_1_method_10_code
def yX4_copy : MethodName := ⟨RX4, "copy", "(II)I"⟩
abbrev cX4_told : ByteArray := prog_1_method_11_code
def yX4_told : MethodName := ⟨RX4, "told", "(II)I"⟩
abbrev cX4_chain : ByteArray := prog_1_method_12_code
def yX4_chain : MethodName := ⟨RX4, "chain", "(III)I"⟩
abbrev cX4_grow : ByteArray := prog_1_method_13_code
def yX4_grow : MethodName := ⟨RX4, "grow", "(III)I"⟩
abbrev cX4_spoil : ByteArray := prog_1_method_14_code
def yX4_spoil : MethodName := ⟨RX4, "spoil", "(II)I"⟩
abbrev cX4_shorten : ByteArray := prog_1_method_15_code
def yX4_shorten : MethodName := ⟨RX4, "shorten", "(I)I"⟩
abbrev cX4_root : ByteArray := prog_1_method_16_code
def yX4_root : MethodName := ⟨RX4, "root", "(I)I"⟩
abbrev cX4_prove : ByteArray := prog_1_method_17_code
def yX4_prove : MethodName := ⟨RX4, "prove", "(I)I"⟩
abbrev cX4_proof : ByteArray := prog_1_method_18_code
def yX4_proof : MethodName := ⟨RX4, "proof", "(I)I"⟩
abbrev cX4_forge : ByteArray := prog_1_method_19_code
def yX4_forge : MethodName := ⟨RX4, "forge", "(II)I"⟩
abbrev cX4_cut : ByteArray := prog_1_method_20_code
def yX4_cut : MethodName := ⟨RX4, "cut", "(I)I"⟩
abbrev cX4_check : ByteArray := prog_1_method_21_code
def yX4_check : MethodName := ⟨RX4, "check", "(III)I"⟩
abbrev cX4_isRegister : ByteArray := prog_1_method_22_code
def yX4_isRegister : MethodName := ⟨RX4, "isRegister", "(I)Z"⟩
abbrev cX4_isHasher : ByteArray := prog_1_method_23_code
def yX4_isHasher : MethodName := ⟨RX4, "isHasher", "(I)Z"⟩
abbrev cX4_chunksOf : ByteArray := prog_1_method_24_code
def yX4_chunksOf : MethodName := ⟨RX4, "chunksOf", "(I)I"⟩
abbrev cX4_hasChunk : ByteArray := prog_1_method_25_code
def yX4_hasChunk : MethodName := ⟨RX4, "hasChunk", "(II)Z"⟩
abbrev cX4_chunkLength : ByteArray := prog_1_method_26_code
def yX4_chunkLength : MethodName := ⟨RX4, "chunkLength", "(II)I"⟩
abbrev cX4_deriveKey : ByteArray := prog_1_method_27_code
def yX4_deriveKey : MethodName := ⟨RX4, "deriveKey", "(LTreeHashes$Bytes;)V"⟩
abbrev cX4_prepareTree : ByteArray := prog_1_method_28_code
def yX4_prepareTree : MethodName := ⟨RX4, "prepareTree", "(LTreeHashes$Bytes;III)V"⟩
abbrev cX4_climb : ByteArray := prog_1_method_29_code
def yX4_climb : MethodName := ⟨RX4, "climb", "(II)V"⟩
def RX5 : String := "TreeHashesModel"
def TX5 : u_T := fun k => match k with
  | 0 => ("TreeHashesModel", "registers", "[I", true)
  | 1 => ("TreeHashesModel", "sizes", "[I", true)
  | 2 => ("TreeHashesModel", "taken", "[I", true)
  | 3 => ("TreeHashesModel", "count", "[I", true)
  | 4 => ("TreeHashesModel", "mode", "[I", true)
  | 5 => ("TreeHashesModel", "keys", "[I", true)
  | 6 => ("TreeHashesModel", "chains", "[I", true)
  | 7 => ("TreeHashesModel", "made", "[I", true)
  | 8 => ("TreeHashesModel", "file", "[I", true)
  | 9 => ("TreeHashesModel", "length", "I", false)
  | 10 => ("TreeHashesModel", "proof", "[I", true)
  | 11 => ("TreeHashesModel", "proofSize", "I", false)
  | 12 => ("TreeHashesModel", "start", "[I", true)
  | 13 => ("TreeHashesModel", "key", "[I", true)
  | 14 => ("TreeHashesModel", "base", "I", false)
  | 15 => ("TreeHashesModel", "chain", "[I", true)
  | 16 => ("TreeHashesModel", "block", "[I", true)
  | 17 => ("TreeHashesModel", "v", "[I", true)
  | 18 => ("TreeHashesModel", "w", "[I", true)
  | 19 => ("TreeHashesModel", "old", "[I", true)
  | 20 => ("TreeHashesModel", "order", "[I", true)
  | 21 => ("TreeHashesModel", "number", "J", false)
  | 22 => ("TreeHashesModel", "blockLength", "I", false)
  | 23 => ("TreeHashesModel", "flags", "I", false)
  | 24 => ("TreeHashesModel", "pile", "[I", true)
  | 25 => ("TreeHashesModel", "high", "I", false)
  | 26 => ("TreeHashesModel", "closed", "I", false)
  | _ => ("TreeHashesModel", "isLeft", "[Z", true)
def tyX5 : Nat → FieldType := fun k => match k with
  | 0 => .array .int
  | 1 => .array .int
  | 2 => .array .int
  | 3 => .array .int
  | 4 => .array .int
  | 5 => .array .int
  | 6 => .array .int
  | 7 => .array .int
  | 8 => .array .int
  | 9 => .int
  | 10 => .array .int
  | 11 => .int
  | 12 => .array .int
  | 13 => .array .int
  | 14 => .int
  | 15 => .array .int
  | 16 => .array .int
  | 17 => .array .int
  | 18 => .array .int
  | 19 => .array .int
  | 20 => .array .int
  | 21 => .long
  | 22 => .int
  | 23 => .int
  | 24 => .array .int
  | 25 => .int
  | 26 => .int
  | _ => .array .boolean
abbrev wsX50 : List Cond := u_ws RX5 TX5 28
theorem nmX5 : ∀ a, a < 28 → ∀ b, b < 28 → a ≠ b → (TX5 a).2.1 ≠ (TX5 b).2.1 := by decide +kernel
theorem tyX5_ok : ∀ k, k < 28 → parseFieldDescriptor (TX5 k).2.2.1 = some (tyX5 k) := by decide +kernel
abbrev cX5_init : ByteArray := prog_7_method_1_code
def yX5_init : MethodName := ⟨RX5, "<init>", "()V"⟩
abbrev cX5_plain : ByteArray := prog_7_method_2_code
def yX5_plain : MethodName := ⟨RX5, "plain", "(I)V"⟩
abbrev cX5_in : ByteArray := prog_7_method_3_code
def yX5_in : MethodName := ⟨RX5, "in", "(JJJ)Z"⟩
abbrev cX5_turned : ByteArray := prog_7_method_4_code
def yX5_turned : MethodName := ⟨RX5, "turned", "(II)I"⟩
abbrev cX5_turn : ByteArray := prog_7_method_5_code
def yX5_turn : MethodName := ⟨RX5, "turn", "(IIIII)V"⟩
abbrev cX5_mix : ByteArray := prog_7_method_6_code
def yX5_mix : MethodName := ⟨RX5, "mix", "(JI)V"⟩
abbrev cX5_mixIn : ByteArray := prog_7_method_7_code
def yX5_mixIn : MethodName := ⟨RX5, "mixIn", "()V"⟩
abbrev cX5_chunk : ByteArray := prog_7_method_8_code
def yX5_chunk : MethodName := ⟨RX5, "chunk", "([IIIJ)V"⟩
abbrev cX5_parent : ByteArray := prog_7_method_9_code
def yX5_parent : MethodName := ⟨RX5, "parent", "()V"⟩
abbrev cX5_close : ByteArray := prog_7_method_10_code
def yX5_close : MethodName := ⟨RX5, "close", "()V"⟩
abbrev cX5_beginPile : ByteArray := prog_7_method_11_code
def yX5_beginPile : MethodName := ⟨RX5, "beginPile", "()V"⟩
abbrev cX5_chunksOf : ByteArray := prog_7_method_12_code
def yX5_chunksOf : MethodName := ⟨RX5, "chunksOf", "(I)I"⟩
abbrev cX5_chunkSize : ByteArray := prog_7_method_13_code
def yX5_chunkSize : MethodName := ⟨RX5, "chunkSize", "(II)I"⟩
abbrev cX5_tree : ByteArray := prog_7_method_14_code
def yX5_tree : MethodName := ⟨RX5, "tree", "([IIIII)V"⟩
abbrev cX5_useKey : ByteArray := prog_7_method_15_code
def yX5_useKey : MethodName := ⟨RX5, "useKey", "(I)V"⟩
abbrev cX5_pileOf : ByteArray := prog_7_method_16_code
def yX5_pileOf : MethodName := ⟨RX5, "pileOf", "(I)V"⟩
abbrev cX5_closedOf : ByteArray := prog_7_method_17_code
def yX5_closedOf : MethodName := ⟨RX5, "closedOf", "(I)I"⟩
abbrev cX5_isRegister : ByteArray := prog_7_method_18_code
def yX5_isRegister : MethodName := ⟨RX5, "isRegister", "(I)Z"⟩
abbrev cX5_isHasher : ByteArray := prog_7_method_19_code
def yX5_isHasher : MethodName := ⟨RX5, "isHasher", "(I)Z"⟩
abbrev cX5_add : ByteArray := prog_7_method_20_code
def yX5_add : MethodName := ⟨RX5, "add", "(IIJ)I"⟩
abbrev cX5_clear : ByteArray := prog_7_method_21_code
def yX5_clear : MethodName := ⟨RX5, "clear", "(I)I"⟩
abbrev cX5_size : ByteArray := prog_7_method_22_code
def yX5_size : MethodName := ⟨RX5, "size", "(I)I"⟩
abbrev cX5_at : ByteArray := prog_7_method_23_code
def yX5_at : MethodName := ⟨RX5, "at", "(II)I"⟩
abbrev cX5_begin : ByteArray := prog_7_method_24_code
def yX5_begin : MethodName := ⟨RX5, "begin", "(III)I"⟩
abbrev cX5_wordAt : ByteArray := prog_7_method_25_code
def yX5_wordAt : MethodName := ⟨RX5, "wordAt", "([II)I"⟩
abbrev cX5_take : ByteArray := prog_7_method_26_code
def yX5_take : MethodName := ⟨RX5, "take", "(II)I"⟩
abbrev cX5_fill : ByteArray := prog_7_method_27_code
def yX5_fill : MethodName := ⟨RX5, "fill", "(IIII)I"⟩
abbrev cX5_rootOf : ByteArray := prog_7_method_28_code
def yX5_rootOf : MethodName := ⟨RX5, "rootOf", "(I)V"⟩
abbrev cX5_output : ByteArray := prog_7_method_29_code
def yX5_output : MethodName := ⟨RX5, "output", "(IIIJ)I"⟩
abbrev cX5_copy : ByteArray := prog_7_method_30_code
def yX5_copy : MethodName := ⟨RX5, "copy", "(II)I"⟩
abbrev cX5_told : ByteArray := prog_7_method_31_code
def yX5_told : MethodName := ⟨RX5, "told", "(II)I"⟩
abbrev cX5_chain : ByteArray := prog_7_method_32_code
def yX5_chain : MethodName := ⟨RX5, "chain", "(III)I"⟩
abbrev cX5_grow : ByteArray := prog_7_method_33_code
def yX5_grow : MethodName := ⟨RX5, "grow", "(III)I"⟩
abbrev cX5_spoil : ByteArray := prog_7_method_34_code
def yX5_spoil : MethodName := ⟨RX5, "spoil", "(II)I"⟩
abbrev cX5_shorten : ByteArray := prog_7_method_35_code
def yX5_shorten : MethodName := ⟨RX5, "shorten", "(I)I"⟩
abbrev cX5_root : ByteArray := prog_7_method_36_code
def yX5_root : MethodName := ⟨RX5, "root", "(I)I"⟩
abbrev cX5_leftOf : ByteArray := prog_7_method_37_code
def yX5_leftOf : MethodName := ⟨RX5, "leftOf", "(I)I"⟩
abbrev cX5_prove : ByteArray := prog_7_method_38_code
def yX5_prove : MethodName := ⟨RX5, "prove", "(I)I"⟩
abbrev cX5_proof : ByteArray := prog_7_method_39_code
def yX5_proof : MethodName := ⟨RX5, "proof", "(I)I"⟩
abbrev cX5_forge : ByteArray := prog_7_method_40_code
def yX5_forge : MethodName := ⟨RX5, "forge", "(II)I"⟩
abbrev cX5_cut : ByteArray := prog_7_method_41_code
def yX5_cut : MethodName := ⟨RX5, "cut", "(I)I"⟩
abbrev cX5_check : ByteArray := prog_7_method_42_code
def yX5_check : MethodName := ⟨RX5, "check", "(III)I"⟩
def RJ9 : String := "java/lang/Math"
def TJ9 : u_T := fun k => match k with
  | _ => ("", "", "", false)
def tyJ9 : Nat → FieldType := fun k => match k with
  | _ => .int
abbrev wsJ90 : List Cond := u_ws RJ9 TJ9 0
theorem nmJ9 : ∀ a, a < 0 → ∀ b, b < 0 → a ≠ b → (TJ9 a).2.1 ≠ (TJ9 b).2.1 := by decide +kernel
theorem tyJ9_ok : ∀ k, k < 0 → parseFieldDescriptor (TJ9 k).2.2.1 = some (tyJ9 k) := by decide +kernel
abbrev cJ9_max_7cf53 : ByteArray := prog_8_method_65_code
def yJ9_max_7cf53 : MethodName := ⟨RJ9, "max", "(II)I"⟩
abbrev cJ9_min_7cf53 : ByteArray := prog_8_method_69_code
def yJ9_min_7cf53 : MethodName := ⟨RJ9, "min", "(II)I"⟩
def RL : String := "TreeHashesLaw"
abbrev cL_law : ByteArray := code
def yL_law : MethodName := ⟨RL, "law", "([I)Z"⟩
def wsX0_init : List Cond := .code yX0_init cX0_init 2 none :: ([.methodLink RX0 3 objectInit, .instanceMethod objectInit, .code objectInit ⟨#[0xb1]⟩ 1 none, .methodLink RX0 9 Lib.Math.max.name, .static Lib.Math.max.name, .initialized "java/lang/Math", .code Lib.Math.max.name Lib.Math.max.code 2 (some .int), .arrayClass .byte, .fieldLink RX0 15 "TreeHashes$Bytes" "row" "[B"] ++ wsX00)
def wsX0_hasRoomFor : List Cond := .code yX0_hasRoomFor cX0_hasRoomFor 2 (some .boolean) :: ([.fieldLink RX0 15 "TreeHashes$Bytes" "row" "[B", .fieldLink RX0 21 "TreeHashes$Bytes" "count" "I"] ++ wsX00)
def wsX0_byteAt : List Cond := .code yX0_byteAt cX0_byteAt 2 (some .int) :: ([.fieldLink RX0 21 "TreeHashes$Bytes" "count" "I", .fieldLink RX0 15 "TreeHashes$Bytes" "row" "[B"] ++ wsX00)
def wsX0_append : List Cond := .code yX0_append cX0_append 2 none :: ([.fieldLink RX0 21 "TreeHashes$Bytes" "count" "I", .fieldLink RX0 15 "TreeHashes$Bytes" "row" "[B"] ++ wsX00)
def wsX0_appendChain : List Cond := .code yX0_appendChain cX0_appendChain 3 none :: ([.methodLink RX0 25 yX0_append, .instanceMethod yX0_append, .selects RX0 yX0_append yX0_append, .initialized RX0, .code yX0_append cX0_append 2 none, .fieldLink RX0 21 "TreeHashes$Bytes" "count" "I", .fieldLink RX0 15 "TreeHashes$Bytes" "row" "[B"] ++ wsX00)
def wsX0_appendFrom : List Cond := .code yX0_appendFrom cX0_appendFrom 5 none :: ([.methodLink RX0 29 yX0_byteAt, .instanceMethod yX0_byteAt, .selects RX0 yX0_byteAt yX0_byteAt, .initialized RX0, .code yX0_byteAt cX0_byteAt 2 (some .int), .fieldLink RX0 21 "TreeHashes$Bytes" "count" "I", .fieldLink RX0 15 "TreeHashes$Bytes" "row" "[B", .methodLink RX0 25 yX0_append, .instanceMethod yX0_append, .selects RX0 yX0_append yX0_append, .code yX0_append cX0_append 2 none] ++ wsX00)
def wsX0_keepFirst : List Cond := .code yX0_keepFirst cX0_keepFirst 3 (some .int) :: ([.fieldLink RX0 21 "TreeHashes$Bytes" "count" "I"] ++ wsX00)
def wsX0_change : List Cond := .code yX0_change cX0_change 3 (some .int) :: ([.fieldLink RX0 21 "TreeHashes$Bytes" "count" "I", .fieldLink RX0 15 "TreeHashes$Bytes" "row" "[B"] ++ wsX00)
def wsX0_wordAt : List Cond := .code yX0_wordAt cX0_wordAt 2 (some .int) :: ([.methodLink RX0 29 yX0_byteAt, .instanceMethod yX0_byteAt, .selects RX0 yX0_byteAt yX0_byteAt, .initialized RX0, .code yX0_byteAt cX0_byteAt 2 (some .int), .fieldLink RX0 21 "TreeHashes$Bytes" "count" "I", .fieldLink RX0 15 "TreeHashes$Bytes" "row" "[B"] ++ wsX00)
def wsX0_readChain : List Cond := .code yX0_readChain cX0_readChain 4 none :: ([.methodLink RX0 33 yX0_wordAt, .instanceMethod yX0_wordAt, .selects RX0 yX0_wordAt yX0_wordAt, .initialized RX0, .code yX0_wordAt cX0_wordAt 2 (some .int), .methodLink RX0 29 yX0_byteAt, .instanceMethod yX0_byteAt, .selects RX0 yX0_byteAt yX0_byteAt, .code yX0_byteAt cX0_byteAt 2 (some .int), .fieldLink RX0 21 "TreeHashes$Bytes" "count" "I", .fieldLink RX0 15 "TreeHashes$Bytes" "row" "[B"] ++ wsX00)
def wsX2_init : List Cond := .code yX2_init cX2_init 1 none :: ([.methodLink RX2 3 objectInit, .instanceMethod objectInit, .code objectInit ⟨#[0xb1]⟩ 1 none, .arrayClass .int, .fieldLink RX2 9 "TreeHashes$Mix" "chain" "[I", .fieldLink RX2 15 "TreeHashes$Mix" "block" "[I", .fieldLink RX2 18 "TreeHashes$Mix" "v" "[I", .fieldLink RX2 21 "TreeHashes$Mix" "w" "[I", .fieldLink RX2 24 "TreeHashes$Mix" "nextW" "[I"] ++ wsX20)
def wsX1_copyWords : List Cond := .code yX1_copyWords cX1_copyWords 3 none :: ([])
def wsX1_startBlock : List Cond := .code yX1_startBlock cX1_startBlock 2 none :: ([.fieldLink RX1 28 "TreeHashes$Hasher" "block" "[I", .fieldLink RX1 67 "TreeHashes$Hasher" "inBlock" "I"] ++ wsX10)
def wsX1_startChunk : List Cond := .code yX1_startChunk cX1_startChunk 1 none :: ([.fieldLink RX1 18 "TreeHashes$Hasher" "key" "[I", .fieldLink RX1 25 "TreeHashes$Hasher" "chunkChain" "[I", .fieldLink RX1 64 "TreeHashes$Hasher" "blocks" "I", .methodLink RX1 38 yX1_copyWords, .static yX1_copyWords, .initialized RX1, .code yX1_copyWords cX1_copyWords 3 none, .methodLink RX1 104 yX1_startBlock, .instanceMethod yX1_startBlock, .selects RX1 yX1_startBlock yX1_startBlock, .code yX1_startBlock cX1_startBlock 2 none, .fieldLink RX1 28 "TreeHashes$Hasher" "block" "[I", .fieldLink RX1 67 "TreeHashes$Hasher" "inBlock" "I"] ++ wsX10)
def wsX1_restart : List Cond := .code yX1_restart cX1_restart 5 none :: ([.fieldLink RX1 18 "TreeHashes$Hasher" "key" "[I", .fieldLink RX1 42 "TreeHashes$Hasher" "mode" "I", .fieldLink RX1 46 "TreeHashes$Hasher" "base" "I", .fieldLink RX1 49 "TreeHashes$Hasher" "firstChunk" "I", .fieldLink RX1 52 "TreeHashes$Hasher" "taken" "I", .fieldLink RX1 55 "TreeHashes$Hasher" "closed" "I", .fieldLink RX1 58 "TreeHashes$Hasher" "depth" "I", .methodLink RX1 38 yX1_copyWords, .static yX1_copyWords, .initialized RX1, .code yX1_copyWords cX1_copyWords 3 none, .methodLink RX1 61 yX1_startChunk, .instanceMethod yX1_startChunk, .selects RX1 yX1_startChunk yX1_startChunk, .code yX1_startChunk cX1_startChunk 1 none, .fieldLink RX1 25 "TreeHashes$Hasher" "chunkChain" "[I", .fieldLink RX1 64 "TreeHashes$Hasher" "blocks" "I", .methodLink RX1 104 yX1_startBlock, .instanceMethod yX1_startBlock, .selects RX1 yX1_startBlock yX1_startBlock, .code yX1_startBlock cX1_startBlock 2 none, .fieldLink RX1 28 "TreeHashes$Hasher" "block" "[I", .fieldLink RX1 67 "TreeHashes$Hasher" "inBlock" "I"] ++ wsX10)
def wsX1_init_r1 : List Cond := [Cond.methodLink RX1 5 objectInit, Cond.instanceMethod objectInit, Cond.code objectInit ⟨#[0xb1]⟩ 1 none, Cond.classLink RX1 11 RX2, Cond.instantiable RX2 8, Cond.initialized RX2, Cond.fieldLink RX1 14 "TreeHashes$Hasher" "mix" "LTreeHashes$Mix;", Cond.arrayClass .int, Cond.fieldLink RX1 18 "TreeHashes$Hasher" "key" "[I", Cond.fieldLink RX1 22 "TreeHashes$Hasher" "stack" "[I", Cond.fieldLink RX1 25 "TreeHashes$Hasher" "chunkChain" "[I", Cond.fieldLink RX1 28 "TreeHashes$Hasher" "block" "[I", Cond.fieldLink RX1 31 "TreeHashes$Mix" "START" "[I", Cond.instanceMethod yX2_init, Cond.code yX2_init cX2_init 1 none, Cond.methodLink RX2 3 objectInit, Cond.fieldLink RX2 9 "TreeHashes$Mix" "chain" "[I", Cond.fieldLink RX2 15 "TreeHashes$Mix" "block" "[I", Cond.fieldLink RX2 18 "TreeHashes$Mix" "v" "[I", Cond.fieldLink RX2 21 "TreeHashes$Mix" "w" "[I", Cond.fieldLink RX2 24 "TreeHashes$Mix" "nextW" "[I", Cond.methodLink RX1 34 yX1_restart, Cond.instanceMethod yX1_restart, Cond.selects RX1 yX1_restart yX1_restart]
def wsX1_init_r2 : List Cond := [Cond.initialized RX1, Cond.code yX1_restart cX1_restart 5 none, Cond.fieldLink RX1 42 "TreeHashes$Hasher" "mode" "I", Cond.fieldLink RX1 46 "TreeHashes$Hasher" "base" "I", Cond.fieldLink RX1 49 "TreeHashes$Hasher" "firstChunk" "I", Cond.fieldLink RX1 52 "TreeHashes$Hasher" "taken" "I", Cond.fieldLink RX1 55 "TreeHashes$Hasher" "closed" "I", Cond.fieldLink RX1 58 "TreeHashes$Hasher" "depth" "I", Cond.methodLink RX1 38 yX1_copyWords, Cond.static yX1_copyWords, Cond.code yX1_copyWords cX1_copyWords 3 none, Cond.methodLink RX1 61 yX1_startChunk, Cond.instanceMethod yX1_startChunk, Cond.selects RX1 yX1_startChunk yX1_startChunk, Cond.code yX1_startChunk cX1_startChunk 1 none, Cond.fieldLink RX1 64 "TreeHashes$Hasher" "blocks" "I", Cond.methodLink RX1 104 yX1_startBlock, Cond.instanceMethod yX1_startBlock, Cond.selects RX1 yX1_startBlock yX1_startBlock, Cond.code yX1_startBlock cX1_startBlock 2 none, Cond.fieldLink RX1 67 "TreeHashes$Hasher" "inBlock" "I"]
def wsX1_init : List Cond := .code yX1_init cX1_init 1 none :: ((wsX1_init_r1 ++ wsX1_init_r2) ++ wsX20 ++ wsX10)
def wsX1_becomeAs : List Cond := .code yX1_becomeAs cX1_becomeAs 2 none :: ([.fieldLink RX1 18 "TreeHashes$Hasher" "key" "[I", .fieldLink RX1 22 "TreeHashes$Hasher" "stack" "[I", .fieldLink RX1 25 "TreeHashes$Hasher" "chunkChain" "[I", .fieldLink RX1 28 "TreeHashes$Hasher" "block" "[I", .fieldLink RX1 42 "TreeHashes$Hasher" "mode" "I", .fieldLink RX1 46 "TreeHashes$Hasher" "base" "I", .fieldLink RX1 49 "TreeHashes$Hasher" "firstChunk" "I", .fieldLink RX1 52 "TreeHashes$Hasher" "taken" "I", .fieldLink RX1 55 "TreeHashes$Hasher" "closed" "I", .fieldLink RX1 58 "TreeHashes$Hasher" "depth" "I", .fieldLink RX1 64 "TreeHashes$Hasher" "blocks" "I", .fieldLink RX1 67 "TreeHashes$Hasher" "inBlock" "I", .methodLink RX1 38 yX1_copyWords, .static yX1_copyWords, .initialized RX1, .code yX1_copyWords cX1_copyWords 3 none] ++ wsX10)
def wsX2_prepare : List Cond := .code yX2_prepare cX2_prepare 8 none :: ([.fieldLink RX2 9 "TreeHashes$Mix" "chain" "[I", .fieldLink RX2 15 "TreeHashes$Mix" "block" "[I", .fieldLink RX2 27 "TreeHashes$Mix" "count" "J", .fieldLink RX2 31 "TreeHashes$Mix" "length" "I", .fieldLink RX2 35 "TreeHashes$Mix" "flags" "I"] ++ wsX20)
def wsX1_prepareBlock : List Cond := .code yX1_prepareBlock cX1_prepareBlock 3 none :: ([.fieldLink RX1 64 "TreeHashes$Hasher" "blocks" "I", .fieldLink RX1 14 "TreeHashes$Hasher" "mix" "LTreeHashes$Mix;", .fieldLink RX1 25 "TreeHashes$Hasher" "chunkChain" "[I", .fieldLink RX1 28 "TreeHashes$Hasher" "block" "[I", .fieldLink RX1 49 "TreeHashes$Hasher" "firstChunk" "I", .fieldLink RX1 55 "TreeHashes$Hasher" "closed" "I", .fieldLink RX1 67 "TreeHashes$Hasher" "inBlock" "I", .fieldLink RX1 46 "TreeHashes$Hasher" "base" "I", .methodLink RX1 96 yX2_prepare, .instanceMethod yX2_prepare, .selects RX2 yX2_prepare yX2_prepare, .initialized RX2, .code yX2_prepare cX2_prepare 8 none, .fieldLink RX2 9 "TreeHashes$Mix" "chain" "[I", .fieldLink RX2 15 "TreeHashes$Mix" "block" "[I", .fieldLink RX2 27 "TreeHashes$Mix" "count" "J", .fieldLink RX2 31 "TreeHashes$Mix" "length" "I", .fieldLink RX2 35 "TreeHashes$Mix" "flags" "I"] ++ wsX10 ++ wsX20)
def wsX2_fillIn : List Cond := .code yX2_fillIn cX2_fillIn 2 none :: ([.fieldLink RX2 18 "TreeHashes$Mix" "v" "[I", .fieldLink RX2 9 "TreeHashes$Mix" "chain" "[I", .fieldLink RX2 76 "TreeHashes$Mix" "START" "[I", .fieldLink RX2 27 "TreeHashes$Mix" "count" "J", .fieldLink RX2 31 "TreeHashes$Mix" "length" "I", .fieldLink RX2 35 "TreeHashes$Mix" "flags" "I", .fieldLink RX2 21 "TreeHashes$Mix" "w" "[I", .fieldLink RX2 15 "TreeHashes$Mix" "block" "[I"] ++ wsX20)
def wsX2_turn : List Cond := .code yX2_turn cX2_turn 11 none :: ([.fieldLink RX2 18 "TreeHashes$Mix" "v" "[I"] ++ wsX20)
def wsX2_reorder : List Cond := .code yX2_reorder cX2_reorder 2 none :: ([.fieldLink RX2 24 "TreeHashes$Mix" "nextW" "[I", .fieldLink RX2 21 "TreeHashes$Mix" "w" "[I", .fieldLink RX2 79 "TreeHashes$Mix" "ORDER" "[I"] ++ wsX20)
def wsX2_run : List Cond := .code yX2_run cX2_run 2 none :: ([.fieldLink RX2 21 "TreeHashes$Mix" "w" "[I", .fieldLink RX2 18 "TreeHashes$Mix" "v" "[I", .fieldLink RX2 9 "TreeHashes$Mix" "chain" "[I", .methodLink RX2 66 yX2_fillIn, .instanceMethod yX2_fillIn, .selects RX2 yX2_fillIn yX2_fillIn, .initialized RX2, .code yX2_fillIn cX2_fillIn 2 none, .fieldLink RX2 76 "TreeHashes$Mix" "START" "[I", .fieldLink RX2 27 "TreeHashes$Mix" "count" "J", .fieldLink RX2 31 "TreeHashes$Mix" "length" "I", .fieldLink RX2 35 "TreeHashes$Mix" "flags" "I", .fieldLink RX2 15 "TreeHashes$Mix" "block" "[I", .methodLink RX2 69 yX2_turn, .instanceMethod yX2_turn, .selects RX2 yX2_turn yX2_turn, .code yX2_turn cX2_turn 11 none, .methodLink RX2 73 yX2_reorder, .instanceMethod yX2_reorder, .selects RX2 yX2_reorder yX2_reorder, .code yX2_reorder cX2_reorder 2 none, .fieldLink RX2 24 "TreeHashes$Mix" "nextW" "[I", .fieldLink RX2 79 "TreeHashes$Mix" "ORDER" "[I"] ++ wsX20)
def wsX2_joinBehind : List Cond := .code yX2_joinBehind cX2_joinBehind 6 none :: ([.fieldLink RX2 15 "TreeHashes$Mix" "block" "[I", .fieldLink RX2 18 "TreeHashes$Mix" "v" "[I", .methodLink RX2 38 yX2_prepare, .instanceMethod yX2_prepare, .selects RX2 yX2_prepare yX2_prepare, .initialized RX2, .code yX2_prepare cX2_prepare 8 none, .fieldLink RX2 9 "TreeHashes$Mix" "chain" "[I", .fieldLink RX2 27 "TreeHashes$Mix" "count" "J", .fieldLink RX2 31 "TreeHashes$Mix" "length" "I", .fieldLink RX2 35 "TreeHashes$Mix" "flags" "I"] ++ wsX20)
def wsX2_writeChain : List Cond := .code yX2_writeChain cX2_writeChain 4 none :: ([.fieldLink RX2 18 "TreeHashes$Mix" "v" "[I"] ++ wsX20)
def wsX1_closeChunk_r1 : List Cond := [Cond.fieldLink RX1 14 "TreeHashes$Hasher" "mix" "LTreeHashes$Mix;", Cond.fieldLink RX1 55 "TreeHashes$Hasher" "closed" "I", Cond.fieldLink RX1 58 "TreeHashes$Hasher" "depth" "I", Cond.fieldLink RX1 22 "TreeHashes$Hasher" "stack" "[I", Cond.fieldLink RX1 18 "TreeHashes$Hasher" "key" "[I", Cond.fieldLink RX1 46 "TreeHashes$Hasher" "base" "I", Cond.methodLink RX1 86 yX1_prepareBlock, Cond.instanceMethod yX1_prepareBlock, Cond.selects RX1 yX1_prepareBlock yX1_prepareBlock, Cond.initialized RX1, Cond.code yX1_prepareBlock cX1_prepareBlock 3 none, Cond.fieldLink RX1 64 "TreeHashes$Hasher" "blocks" "I", Cond.fieldLink RX1 25 "TreeHashes$Hasher" "chunkChain" "[I", Cond.fieldLink RX1 28 "TreeHashes$Hasher" "block" "[I", Cond.fieldLink RX1 49 "TreeHashes$Hasher" "firstChunk" "I", Cond.fieldLink RX1 67 "TreeHashes$Hasher" "inBlock" "I", Cond.methodLink RX1 96 yX2_prepare, Cond.instanceMethod yX2_prepare, Cond.selects RX2 yX2_prepare yX2_prepare, Cond.initialized RX2, Cond.code yX2_prepare cX2_prepare 8 none, Cond.fieldLink RX2 9 "TreeHashes$Mix" "chain" "[I", Cond.fieldLink RX2 15 "TreeHashes$Mix" "block" "[I", Cond.fieldLink RX2 27 "TreeHashes$Mix" "count" "J"]
def wsX1_closeChunk_r2 : List Cond := [Cond.fieldLink RX2 31 "TreeHashes$Mix" "length" "I", Cond.fieldLink RX2 35 "TreeHashes$Mix" "flags" "I", Cond.methodLink RX1 89 yX2_run, Cond.instanceMethod yX2_run, Cond.selects RX2 yX2_run yX2_run, Cond.code yX2_run cX2_run 2 none, Cond.fieldLink RX2 21 "TreeHashes$Mix" "w" "[I", Cond.fieldLink RX2 18 "TreeHashes$Mix" "v" "[I", Cond.methodLink RX2 66 yX2_fillIn, Cond.instanceMethod yX2_fillIn, Cond.selects RX2 yX2_fillIn yX2_fillIn, Cond.code yX2_fillIn cX2_fillIn 2 none, Cond.fieldLink RX2 76 "TreeHashes$Mix" "START" "[I", Cond.methodLink RX2 69 yX2_turn, Cond.instanceMethod yX2_turn, Cond.selects RX2 yX2_turn yX2_turn, Cond.code yX2_turn cX2_turn 11 none, Cond.methodLink RX2 73 yX2_reorder, Cond.instanceMethod yX2_reorder, Cond.selects RX2 yX2_reorder yX2_reorder, Cond.code yX2_reorder cX2_reorder 2 none, Cond.fieldLink RX2 24 "TreeHashes$Mix" "nextW" "[I", Cond.fieldLink RX2 79 "TreeHashes$Mix" "ORDER" "[I", Cond.methodLink RX1 92 yX2_joinBehind]
def wsX1_closeChunk_r3 : List Cond := [Cond.instanceMethod yX2_joinBehind, Cond.selects RX2 yX2_joinBehind yX2_joinBehind, Cond.code yX2_joinBehind cX2_joinBehind 6 none, Cond.methodLink RX2 38 yX2_prepare, Cond.methodLink RX1 100 yX2_writeChain, Cond.instanceMethod yX2_writeChain, Cond.selects RX2 yX2_writeChain yX2_writeChain, Cond.code yX2_writeChain cX2_writeChain 4 none, Cond.methodLink RX1 61 yX1_startChunk, Cond.instanceMethod yX1_startChunk, Cond.selects RX1 yX1_startChunk yX1_startChunk, Cond.code yX1_startChunk cX1_startChunk 1 none, Cond.methodLink RX1 38 yX1_copyWords, Cond.static yX1_copyWords, Cond.code yX1_copyWords cX1_copyWords 3 none, Cond.methodLink RX1 104 yX1_startBlock, Cond.instanceMethod yX1_startBlock, Cond.selects RX1 yX1_startBlock yX1_startBlock, Cond.code yX1_startBlock cX1_startBlock 2 none]
def wsX1_closeChunk : List Cond := .code yX1_closeChunk cX1_closeChunk 2 none :: ((wsX1_closeChunk_r1 ++ (wsX1_closeChunk_r2 ++ wsX1_closeChunk_r3)) ++ wsX10 ++ wsX20)
def wsX1_closeBlock_r1 : List Cond := [Cond.fieldLink RX1 14 "TreeHashes$Hasher" "mix" "LTreeHashes$Mix;", Cond.fieldLink RX1 25 "TreeHashes$Hasher" "chunkChain" "[I", Cond.fieldLink RX1 64 "TreeHashes$Hasher" "blocks" "I", Cond.methodLink RX1 86 yX1_prepareBlock, Cond.instanceMethod yX1_prepareBlock, Cond.selects RX1 yX1_prepareBlock yX1_prepareBlock, Cond.initialized RX1, Cond.code yX1_prepareBlock cX1_prepareBlock 3 none, Cond.fieldLink RX1 28 "TreeHashes$Hasher" "block" "[I", Cond.fieldLink RX1 49 "TreeHashes$Hasher" "firstChunk" "I", Cond.fieldLink RX1 55 "TreeHashes$Hasher" "closed" "I", Cond.fieldLink RX1 67 "TreeHashes$Hasher" "inBlock" "I", Cond.fieldLink RX1 46 "TreeHashes$Hasher" "base" "I", Cond.methodLink RX1 96 yX2_prepare, Cond.instanceMethod yX2_prepare, Cond.selects RX2 yX2_prepare yX2_prepare, Cond.initialized RX2, Cond.code yX2_prepare cX2_prepare 8 none, Cond.fieldLink RX2 9 "TreeHashes$Mix" "chain" "[I", Cond.fieldLink RX2 15 "TreeHashes$Mix" "block" "[I", Cond.fieldLink RX2 27 "TreeHashes$Mix" "count" "J", Cond.fieldLink RX2 31 "TreeHashes$Mix" "length" "I", Cond.fieldLink RX2 35 "TreeHashes$Mix" "flags" "I", Cond.methodLink RX1 89 yX2_run]
def wsX1_closeBlock_r2 : List Cond := [Cond.instanceMethod yX2_run, Cond.selects RX2 yX2_run yX2_run, Cond.code yX2_run cX2_run 2 none, Cond.fieldLink RX2 21 "TreeHashes$Mix" "w" "[I", Cond.fieldLink RX2 18 "TreeHashes$Mix" "v" "[I", Cond.methodLink RX2 66 yX2_fillIn, Cond.instanceMethod yX2_fillIn, Cond.selects RX2 yX2_fillIn yX2_fillIn, Cond.code yX2_fillIn cX2_fillIn 2 none, Cond.fieldLink RX2 76 "TreeHashes$Mix" "START" "[I", Cond.methodLink RX2 69 yX2_turn, Cond.instanceMethod yX2_turn, Cond.selects RX2 yX2_turn yX2_turn, Cond.code yX2_turn cX2_turn 11 none, Cond.methodLink RX2 73 yX2_reorder, Cond.instanceMethod yX2_reorder, Cond.selects RX2 yX2_reorder yX2_reorder, Cond.code yX2_reorder cX2_reorder 2 none, Cond.fieldLink RX2 24 "TreeHashes$Mix" "nextW" "[I", Cond.fieldLink RX2 79 "TreeHashes$Mix" "ORDER" "[I", Cond.methodLink RX1 100 yX2_writeChain, Cond.instanceMethod yX2_writeChain, Cond.selects RX2 yX2_writeChain yX2_writeChain, Cond.code yX2_writeChain cX2_writeChain 4 none]
def wsX1_closeBlock_r3 : List Cond := [Cond.methodLink RX1 104 yX1_startBlock, Cond.instanceMethod yX1_startBlock, Cond.selects RX1 yX1_startBlock yX1_startBlock, Cond.code yX1_startBlock cX1_startBlock 2 none]
def wsX1_closeBlock : List Cond := .code yX1_closeBlock cX1_closeBlock 1 none :: ((wsX1_closeBlock_r1 ++ (wsX1_closeBlock_r2 ++ wsX1_closeBlock_r3)) ++ wsX10 ++ wsX20)
def wsX1_absorbByte_r1 : List Cond := [Cond.fieldLink RX1 67 "TreeHashes$Hasher" "inBlock" "I", Cond.fieldLink RX1 64 "TreeHashes$Hasher" "blocks" "I", Cond.fieldLink RX1 28 "TreeHashes$Hasher" "block" "[I", Cond.fieldLink RX1 52 "TreeHashes$Hasher" "taken" "I", Cond.methodLink RX1 80 yX1_closeChunk, Cond.instanceMethod yX1_closeChunk, Cond.selects RX1 yX1_closeChunk yX1_closeChunk, Cond.initialized RX1, Cond.code yX1_closeChunk cX1_closeChunk 2 none, Cond.fieldLink RX1 14 "TreeHashes$Hasher" "mix" "LTreeHashes$Mix;", Cond.fieldLink RX1 55 "TreeHashes$Hasher" "closed" "I", Cond.fieldLink RX1 58 "TreeHashes$Hasher" "depth" "I", Cond.fieldLink RX1 22 "TreeHashes$Hasher" "stack" "[I", Cond.fieldLink RX1 18 "TreeHashes$Hasher" "key" "[I", Cond.fieldLink RX1 46 "TreeHashes$Hasher" "base" "I", Cond.methodLink RX1 86 yX1_prepareBlock, Cond.instanceMethod yX1_prepareBlock, Cond.selects RX1 yX1_prepareBlock yX1_prepareBlock, Cond.code yX1_prepareBlock cX1_prepareBlock 3 none, Cond.fieldLink RX1 25 "TreeHashes$Hasher" "chunkChain" "[I", Cond.fieldLink RX1 49 "TreeHashes$Hasher" "firstChunk" "I", Cond.methodLink RX1 96 yX2_prepare, Cond.instanceMethod yX2_prepare, Cond.selects RX2 yX2_prepare yX2_prepare]
def wsX1_absorbByte_r2 : List Cond := [Cond.initialized RX2, Cond.code yX2_prepare cX2_prepare 8 none, Cond.fieldLink RX2 9 "TreeHashes$Mix" "chain" "[I", Cond.fieldLink RX2 15 "TreeHashes$Mix" "block" "[I", Cond.fieldLink RX2 27 "TreeHashes$Mix" "count" "J", Cond.fieldLink RX2 31 "TreeHashes$Mix" "length" "I", Cond.fieldLink RX2 35 "TreeHashes$Mix" "flags" "I", Cond.methodLink RX1 89 yX2_run, Cond.instanceMethod yX2_run, Cond.selects RX2 yX2_run yX2_run, Cond.code yX2_run cX2_run 2 none, Cond.fieldLink RX2 21 "TreeHashes$Mix" "w" "[I", Cond.fieldLink RX2 18 "TreeHashes$Mix" "v" "[I", Cond.methodLink RX2 66 yX2_fillIn, Cond.instanceMethod yX2_fillIn, Cond.selects RX2 yX2_fillIn yX2_fillIn, Cond.code yX2_fillIn cX2_fillIn 2 none, Cond.fieldLink RX2 76 "TreeHashes$Mix" "START" "[I", Cond.methodLink RX2 69 yX2_turn, Cond.instanceMethod yX2_turn, Cond.selects RX2 yX2_turn yX2_turn, Cond.code yX2_turn cX2_turn 11 none, Cond.methodLink RX2 73 yX2_reorder, Cond.instanceMethod yX2_reorder]
def wsX1_absorbByte_r3 : List Cond := [Cond.selects RX2 yX2_reorder yX2_reorder, Cond.code yX2_reorder cX2_reorder 2 none, Cond.fieldLink RX2 24 "TreeHashes$Mix" "nextW" "[I", Cond.fieldLink RX2 79 "TreeHashes$Mix" "ORDER" "[I", Cond.methodLink RX1 92 yX2_joinBehind, Cond.instanceMethod yX2_joinBehind, Cond.selects RX2 yX2_joinBehind yX2_joinBehind, Cond.code yX2_joinBehind cX2_joinBehind 6 none, Cond.methodLink RX2 38 yX2_prepare, Cond.methodLink RX1 100 yX2_writeChain, Cond.instanceMethod yX2_writeChain, Cond.selects RX2 yX2_writeChain yX2_writeChain, Cond.code yX2_writeChain cX2_writeChain 4 none, Cond.methodLink RX1 61 yX1_startChunk, Cond.instanceMethod yX1_startChunk, Cond.selects RX1 yX1_startChunk yX1_startChunk, Cond.code yX1_startChunk cX1_startChunk 1 none, Cond.methodLink RX1 38 yX1_copyWords, Cond.static yX1_copyWords, Cond.code yX1_copyWords cX1_copyWords 3 none, Cond.methodLink RX1 104 yX1_startBlock, Cond.instanceMethod yX1_startBlock, Cond.selects RX1 yX1_startBlock yX1_startBlock, Cond.code yX1_startBlock cX1_startBlock 2 none]
def wsX1_absorbByte_r4 : List Cond := [Cond.methodLink RX1 83 yX1_closeBlock, Cond.instanceMethod yX1_closeBlock, Cond.selects RX1 yX1_closeBlock yX1_closeBlock, Cond.code yX1_closeBlock cX1_closeBlock 1 none]
def wsX1_absorbByte : List Cond := .code yX1_absorbByte cX1_absorbByte 2 none :: ((wsX1_absorbByte_r1 ++ (wsX1_absorbByte_r2 ++ (wsX1_absorbByte_r3 ++ wsX1_absorbByte_r4))) ++ wsX10 ++ wsX20)
def wsX1_absorb_r1 : List Cond := [Cond.methodLink RX1 70 yX0_byteAt, Cond.instanceMethod yX0_byteAt, Cond.selects RX0 yX0_byteAt yX0_byteAt, Cond.initialized RX0, Cond.code yX0_byteAt cX0_byteAt 2 (some .int), Cond.fieldLink RX0 21 "TreeHashes$Bytes" "count" "I", Cond.fieldLink RX0 15 "TreeHashes$Bytes" "row" "[B", Cond.methodLink RX1 76 yX1_absorbByte, Cond.instanceMethod yX1_absorbByte, Cond.selects RX1 yX1_absorbByte yX1_absorbByte, Cond.initialized RX1, Cond.code yX1_absorbByte cX1_absorbByte 2 none, Cond.fieldLink RX1 67 "TreeHashes$Hasher" "inBlock" "I", Cond.fieldLink RX1 64 "TreeHashes$Hasher" "blocks" "I", Cond.fieldLink RX1 28 "TreeHashes$Hasher" "block" "[I", Cond.fieldLink RX1 52 "TreeHashes$Hasher" "taken" "I", Cond.methodLink RX1 80 yX1_closeChunk, Cond.instanceMethod yX1_closeChunk, Cond.selects RX1 yX1_closeChunk yX1_closeChunk, Cond.code yX1_closeChunk cX1_closeChunk 2 none, Cond.fieldLink RX1 14 "TreeHashes$Hasher" "mix" "LTreeHashes$Mix;", Cond.fieldLink RX1 55 "TreeHashes$Hasher" "closed" "I", Cond.fieldLink RX1 58 "TreeHashes$Hasher" "depth" "I", Cond.fieldLink RX1 22 "TreeHashes$Hasher" "stack" "[I"]
def wsX1_absorb_r2 : List Cond := [Cond.fieldLink RX1 18 "TreeHashes$Hasher" "key" "[I", Cond.fieldLink RX1 46 "TreeHashes$Hasher" "base" "I", Cond.methodLink RX1 86 yX1_prepareBlock, Cond.instanceMethod yX1_prepareBlock, Cond.selects RX1 yX1_prepareBlock yX1_prepareBlock, Cond.code yX1_prepareBlock cX1_prepareBlock 3 none, Cond.fieldLink RX1 25 "TreeHashes$Hasher" "chunkChain" "[I", Cond.fieldLink RX1 49 "TreeHashes$Hasher" "firstChunk" "I", Cond.methodLink RX1 96 yX2_prepare, Cond.instanceMethod yX2_prepare, Cond.selects RX2 yX2_prepare yX2_prepare, Cond.initialized RX2, Cond.code yX2_prepare cX2_prepare 8 none, Cond.fieldLink RX2 9 "TreeHashes$Mix" "chain" "[I", Cond.fieldLink RX2 15 "TreeHashes$Mix" "block" "[I", Cond.fieldLink RX2 27 "TreeHashes$Mix" "count" "J", Cond.fieldLink RX2 31 "TreeHashes$Mix" "length" "I", Cond.fieldLink RX2 35 "TreeHashes$Mix" "flags" "I", Cond.methodLink RX1 89 yX2_run, Cond.instanceMethod yX2_run, Cond.selects RX2 yX2_run yX2_run, Cond.code yX2_run cX2_run 2 none, Cond.fieldLink RX2 21 "TreeHashes$Mix" "w" "[I", Cond.fieldLink RX2 18 "TreeHashes$Mix" "v" "[I"]
def wsX1_absorb_r3 : List Cond := [Cond.methodLink RX2 66 yX2_fillIn, Cond.instanceMethod yX2_fillIn, Cond.selects RX2 yX2_fillIn yX2_fillIn, Cond.code yX2_fillIn cX2_fillIn 2 none, Cond.fieldLink RX2 76 "TreeHashes$Mix" "START" "[I", Cond.methodLink RX2 69 yX2_turn, Cond.instanceMethod yX2_turn, Cond.selects RX2 yX2_turn yX2_turn, Cond.code yX2_turn cX2_turn 11 none, Cond.methodLink RX2 73 yX2_reorder, Cond.instanceMethod yX2_reorder, Cond.selects RX2 yX2_reorder yX2_reorder, Cond.code yX2_reorder cX2_reorder 2 none, Cond.fieldLink RX2 24 "TreeHashes$Mix" "nextW" "[I", Cond.fieldLink RX2 79 "TreeHashes$Mix" "ORDER" "[I", Cond.methodLink RX1 92 yX2_joinBehind, Cond.instanceMethod yX2_joinBehind, Cond.selects RX2 yX2_joinBehind yX2_joinBehind, Cond.code yX2_joinBehind cX2_joinBehind 6 none, Cond.methodLink RX2 38 yX2_prepare, Cond.methodLink RX1 100 yX2_writeChain, Cond.instanceMethod yX2_writeChain, Cond.selects RX2 yX2_writeChain yX2_writeChain, Cond.code yX2_writeChain cX2_writeChain 4 none]
def wsX1_absorb_r4 : List Cond := [Cond.methodLink RX1 61 yX1_startChunk, Cond.instanceMethod yX1_startChunk, Cond.selects RX1 yX1_startChunk yX1_startChunk, Cond.code yX1_startChunk cX1_startChunk 1 none, Cond.methodLink RX1 38 yX1_copyWords, Cond.static yX1_copyWords, Cond.code yX1_copyWords cX1_copyWords 3 none, Cond.methodLink RX1 104 yX1_startBlock, Cond.instanceMethod yX1_startBlock, Cond.selects RX1 yX1_startBlock yX1_startBlock, Cond.code yX1_startBlock cX1_startBlock 2 none, Cond.methodLink RX1 83 yX1_closeBlock, Cond.instanceMethod yX1_closeBlock, Cond.selects RX1 yX1_closeBlock yX1_closeBlock, Cond.code yX1_closeBlock cX1_closeBlock 1 none]
def wsX1_absorb : List Cond := .code yX1_absorb cX1_absorb 5 none :: ((wsX1_absorb_r1 ++ (wsX1_absorb_r2 ++ (wsX1_absorb_r3 ++ wsX1_absorb_r4))) ++ wsX00 ++ wsX10 ++ wsX20)
def wsX1_inChunk : List Cond := .code yX1_inChunk cX1_inChunk 1 (some .int) :: ([.fieldLink RX1 64 "TreeHashes$Hasher" "blocks" "I", .fieldLink RX1 67 "TreeHashes$Hasher" "inBlock" "I"] ++ wsX10)
def wsX1_stackWord : List Cond := .code yX1_stackWord cX1_stackWord 3 (some .int) :: ([.fieldLink RX1 58 "TreeHashes$Hasher" "depth" "I", .fieldLink RX1 22 "TreeHashes$Hasher" "stack" "[I"] ++ wsX10)
def wsX1_prepareLast_r1 : List Cond := [Cond.fieldLink RX1 58 "TreeHashes$Hasher" "depth" "I", Cond.fieldLink RX1 14 "TreeHashes$Hasher" "mix" "LTreeHashes$Mix;", Cond.fieldLink RX1 22 "TreeHashes$Hasher" "stack" "[I", Cond.fieldLink RX1 18 "TreeHashes$Hasher" "key" "[I", Cond.fieldLink RX1 46 "TreeHashes$Hasher" "base" "I", Cond.methodLink RX1 86 yX1_prepareBlock, Cond.instanceMethod yX1_prepareBlock, Cond.selects RX1 yX1_prepareBlock yX1_prepareBlock, Cond.initialized RX1, Cond.code yX1_prepareBlock cX1_prepareBlock 3 none, Cond.fieldLink RX1 64 "TreeHashes$Hasher" "blocks" "I", Cond.fieldLink RX1 25 "TreeHashes$Hasher" "chunkChain" "[I", Cond.fieldLink RX1 28 "TreeHashes$Hasher" "block" "[I", Cond.fieldLink RX1 49 "TreeHashes$Hasher" "firstChunk" "I", Cond.fieldLink RX1 55 "TreeHashes$Hasher" "closed" "I", Cond.fieldLink RX1 67 "TreeHashes$Hasher" "inBlock" "I", Cond.methodLink RX1 96 yX2_prepare, Cond.instanceMethod yX2_prepare, Cond.selects RX2 yX2_prepare yX2_prepare, Cond.initialized RX2, Cond.code yX2_prepare cX2_prepare 8 none, Cond.fieldLink RX2 9 "TreeHashes$Mix" "chain" "[I", Cond.fieldLink RX2 15 "TreeHashes$Mix" "block" "[I", Cond.fieldLink RX2 27 "TreeHashes$Mix" "count" "J"]
def wsX1_prepareLast_r2 : List Cond := [Cond.fieldLink RX2 31 "TreeHashes$Mix" "length" "I", Cond.fieldLink RX2 35 "TreeHashes$Mix" "flags" "I", Cond.methodLink RX1 89 yX2_run, Cond.instanceMethod yX2_run, Cond.selects RX2 yX2_run yX2_run, Cond.code yX2_run cX2_run 2 none, Cond.fieldLink RX2 21 "TreeHashes$Mix" "w" "[I", Cond.fieldLink RX2 18 "TreeHashes$Mix" "v" "[I", Cond.methodLink RX2 66 yX2_fillIn, Cond.instanceMethod yX2_fillIn, Cond.selects RX2 yX2_fillIn yX2_fillIn, Cond.code yX2_fillIn cX2_fillIn 2 none, Cond.fieldLink RX2 76 "TreeHashes$Mix" "START" "[I", Cond.methodLink RX2 69 yX2_turn, Cond.instanceMethod yX2_turn, Cond.selects RX2 yX2_turn yX2_turn, Cond.code yX2_turn cX2_turn 11 none, Cond.methodLink RX2 73 yX2_reorder, Cond.instanceMethod yX2_reorder, Cond.selects RX2 yX2_reorder yX2_reorder, Cond.code yX2_reorder cX2_reorder 2 none, Cond.fieldLink RX2 24 "TreeHashes$Mix" "nextW" "[I", Cond.fieldLink RX2 79 "TreeHashes$Mix" "ORDER" "[I", Cond.methodLink RX1 92 yX2_joinBehind]
def wsX1_prepareLast_r3 : List Cond := [Cond.instanceMethod yX2_joinBehind, Cond.selects RX2 yX2_joinBehind yX2_joinBehind, Cond.code yX2_joinBehind cX2_joinBehind 6 none, Cond.methodLink RX2 38 yX2_prepare]
def wsX1_prepareLast : List Cond := .code yX1_prepareLast cX1_prepareLast 2 none :: ((wsX1_prepareLast_r1 ++ (wsX1_prepareLast_r2 ++ wsX1_prepareLast_r3)) ++ wsX10 ++ wsX20)
def wsX2_joinBefore : List Cond := .code yX2_joinBefore cX2_joinBefore 6 none :: ([.fieldLink RX2 15 "TreeHashes$Mix" "block" "[I", .fieldLink RX2 18 "TreeHashes$Mix" "v" "[I", .methodLink RX2 38 yX2_prepare, .instanceMethod yX2_prepare, .selects RX2 yX2_prepare yX2_prepare, .initialized RX2, .code yX2_prepare cX2_prepare 8 none, .fieldLink RX2 9 "TreeHashes$Mix" "chain" "[I", .fieldLink RX2 27 "TreeHashes$Mix" "count" "J", .fieldLink RX2 31 "TreeHashes$Mix" "length" "I", .fieldLink RX2 35 "TreeHashes$Mix" "flags" "I"] ++ wsX20)
def wsX2_makeRoot : List Cond := .code yX2_makeRoot cX2_makeRoot 1 none :: ([.fieldLink RX2 35 "TreeHashes$Mix" "flags" "I"] ++ wsX20)
def wsX2_outputByte : List Cond := .code yX2_outputByte cX2_outputByte 2 (some .int) :: ([.fieldLink RX2 18 "TreeHashes$Mix" "v" "[I"] ++ wsX20)
def wsX2_writeOutput_r1 : List Cond := [Cond.constantLong RX2 51 (63), Cond.fieldLink RX2 27 "TreeHashes$Mix" "count" "J", Cond.methodLink RX2 42 yX0_keepFirst, Cond.instanceMethod yX0_keepFirst, Cond.selects RX0 yX0_keepFirst yX0_keepFirst, Cond.initialized RX0, Cond.code yX0_keepFirst cX0_keepFirst 3 (some .int), Cond.fieldLink RX0 21 "TreeHashes$Bytes" "count" "I", Cond.methodLink RX2 48 yX2_makeRoot, Cond.instanceMethod yX2_makeRoot, Cond.selects RX2 yX2_makeRoot yX2_makeRoot, Cond.initialized RX2, Cond.code yX2_makeRoot cX2_makeRoot 1 none, Cond.fieldLink RX2 35 "TreeHashes$Mix" "flags" "I", Cond.methodLink RX2 53 yX2_run, Cond.instanceMethod yX2_run, Cond.selects RX2 yX2_run yX2_run, Cond.code yX2_run cX2_run 2 none, Cond.fieldLink RX2 21 "TreeHashes$Mix" "w" "[I", Cond.fieldLink RX2 18 "TreeHashes$Mix" "v" "[I", Cond.fieldLink RX2 9 "TreeHashes$Mix" "chain" "[I", Cond.methodLink RX2 66 yX2_fillIn, Cond.instanceMethod yX2_fillIn, Cond.selects RX2 yX2_fillIn yX2_fillIn]
def wsX2_writeOutput_r2 : List Cond := [Cond.code yX2_fillIn cX2_fillIn 2 none, Cond.fieldLink RX2 76 "TreeHashes$Mix" "START" "[I", Cond.fieldLink RX2 31 "TreeHashes$Mix" "length" "I", Cond.fieldLink RX2 15 "TreeHashes$Mix" "block" "[I", Cond.methodLink RX2 69 yX2_turn, Cond.instanceMethod yX2_turn, Cond.selects RX2 yX2_turn yX2_turn, Cond.code yX2_turn cX2_turn 11 none, Cond.methodLink RX2 73 yX2_reorder, Cond.instanceMethod yX2_reorder, Cond.selects RX2 yX2_reorder yX2_reorder, Cond.code yX2_reorder cX2_reorder 2 none, Cond.fieldLink RX2 24 "TreeHashes$Mix" "nextW" "[I", Cond.fieldLink RX2 79 "TreeHashes$Mix" "ORDER" "[I", Cond.methodLink RX2 56 yX2_outputByte, Cond.instanceMethod yX2_outputByte, Cond.selects RX2 yX2_outputByte yX2_outputByte, Cond.code yX2_outputByte cX2_outputByte 2 (some .int), Cond.methodLink RX2 59 yX0_append, Cond.instanceMethod yX0_append, Cond.selects RX0 yX0_append yX0_append, Cond.code yX0_append cX0_append 2 none, Cond.fieldLink RX0 15 "TreeHashes$Bytes" "row" "[B"]
def wsX2_writeOutput : List Cond := .code yX2_writeOutput cX2_writeOutput 7 none :: ((wsX2_writeOutput_r1 ++ wsX2_writeOutput_r2) ++ wsX20 ++ wsX00)
def wsX2_rootBeginsWith_r1 : List Cond := [Cond.methodLink RX2 48 yX2_makeRoot, Cond.instanceMethod yX2_makeRoot, Cond.selects RX2 yX2_makeRoot yX2_makeRoot, Cond.initialized RX2, Cond.code yX2_makeRoot cX2_makeRoot 1 none, Cond.fieldLink RX2 35 "TreeHashes$Mix" "flags" "I", Cond.methodLink RX2 53 yX2_run, Cond.instanceMethod yX2_run, Cond.selects RX2 yX2_run yX2_run, Cond.code yX2_run cX2_run 2 none, Cond.fieldLink RX2 21 "TreeHashes$Mix" "w" "[I", Cond.fieldLink RX2 18 "TreeHashes$Mix" "v" "[I", Cond.fieldLink RX2 9 "TreeHashes$Mix" "chain" "[I", Cond.methodLink RX2 66 yX2_fillIn, Cond.instanceMethod yX2_fillIn, Cond.selects RX2 yX2_fillIn yX2_fillIn, Cond.code yX2_fillIn cX2_fillIn 2 none, Cond.fieldLink RX2 76 "TreeHashes$Mix" "START" "[I", Cond.fieldLink RX2 27 "TreeHashes$Mix" "count" "J", Cond.fieldLink RX2 31 "TreeHashes$Mix" "length" "I", Cond.fieldLink RX2 15 "TreeHashes$Mix" "block" "[I", Cond.methodLink RX2 69 yX2_turn, Cond.instanceMethod yX2_turn, Cond.selects RX2 yX2_turn yX2_turn]
def wsX2_rootBeginsWith_r2 : List Cond := [Cond.code yX2_turn cX2_turn 11 none, Cond.methodLink RX2 73 yX2_reorder, Cond.instanceMethod yX2_reorder, Cond.selects RX2 yX2_reorder yX2_reorder, Cond.code yX2_reorder cX2_reorder 2 none, Cond.fieldLink RX2 24 "TreeHashes$Mix" "nextW" "[I", Cond.fieldLink RX2 79 "TreeHashes$Mix" "ORDER" "[I", Cond.methodLink RX2 56 yX2_outputByte, Cond.instanceMethod yX2_outputByte, Cond.selects RX2 yX2_outputByte yX2_outputByte, Cond.code yX2_outputByte cX2_outputByte 2 (some .int), Cond.methodLink RX2 63 yX0_byteAt, Cond.instanceMethod yX0_byteAt, Cond.selects RX0 yX0_byteAt yX0_byteAt, Cond.initialized RX0, Cond.code yX0_byteAt cX0_byteAt 2 (some .int), Cond.fieldLink RX0 21 "TreeHashes$Bytes" "count" "I", Cond.fieldLink RX0 15 "TreeHashes$Bytes" "row" "[B"]
def wsX2_rootBeginsWith : List Cond := .code yX2_rootBeginsWith cX2_rootBeginsWith 3 (some .boolean) :: ((wsX2_rootBeginsWith_r1 ++ wsX2_rootBeginsWith_r2) ++ wsX20 ++ wsX00)
def wsX3_init : List Cond := .code yX3_init cX3_init 1 none :: ([.methodLink RX3 1 objectInit, .instanceMethod objectInit, .code objectInit ⟨#[0xb1]⟩ 1 none, .arrayClass .int, .fieldLink RX3 9 "TreeHashes$Way" "otherFirst" "[I", .fieldLink RX3 13 "TreeHashes$Way" "otherChunks" "[I"] ++ wsX30)
def wsX3_leftOf : List Cond := .code yX3_leftOf cX3_leftOf 3 (some .int) :: ([])
def wsX3_lead : List Cond := .code yX3_lead cX3_lead 6 none :: ([.fieldLink RX3 16 "TreeHashes$Way" "levels" "I", .fieldLink RX3 9 "TreeHashes$Way" "otherFirst" "[I", .fieldLink RX3 13 "TreeHashes$Way" "otherChunks" "[I", .methodLink RX3 20 yX3_leftOf, .static yX3_leftOf, .initialized RX3, .code yX3_leftOf cX3_leftOf 3 (some .int)] ++ wsX30)
def wsX4_init_r1 : List Cond := [Cond.methodLink RX4 3 objectInit, Cond.instanceMethod objectInit, Cond.code objectInit ⟨#[0xb1]⟩ 1 none, Cond.classLink RX4 9 RX0, Cond.fieldLink RX4 11 "TreeHashes" "registers" "[LTreeHashes$Bytes;", Cond.classLink RX4 15 RX1, Cond.fieldLink RX4 17 "TreeHashes" "hashers" "[LTreeHashes$Hasher;", Cond.instantiable RX0 2, Cond.initialized RX0, Cond.fieldLink RX4 24 "TreeHashes" "file" "LTreeHashes$Bytes;", Cond.fieldLink RX4 28 "TreeHashes" "proven" "LTreeHashes$Bytes;", Cond.instantiable RX1 13, Cond.initialized RX1, Cond.fieldLink RX4 32 "TreeHashes" "worker" "LTreeHashes$Hasher;", Cond.classLink RX4 36 RX3, Cond.instantiable RX3 3, Cond.initialized RX3, Cond.fieldLink RX4 39 "TreeHashes" "way" "LTreeHashes$Way;", Cond.arrayClass .int, Cond.fieldLink RX4 43 "TreeHashes" "words" "[I", Cond.methodLink RX4 21 yX0_init, Cond.instanceMethod yX0_init, Cond.code yX0_init cX0_init 2 none, Cond.methodLink RX0 3 objectInit]
def wsX4_init_r2 : List Cond := [Cond.methodLink RX0 9 Lib.Math.max.name, Cond.static Lib.Math.max.name, Cond.initialized "java/lang/Math", Cond.code Lib.Math.max.name Lib.Math.max.code 2 (some .int), Cond.arrayClass .byte, Cond.fieldLink RX0 15 "TreeHashes$Bytes" "row" "[B", Cond.methodLink RX4 31 yX1_init, Cond.instanceMethod yX1_init, Cond.code yX1_init cX1_init 1 none, Cond.methodLink RX1 5 objectInit, Cond.classLink RX1 11 RX2, Cond.instantiable RX2 8, Cond.initialized RX2, Cond.fieldLink RX1 14 "TreeHashes$Hasher" "mix" "LTreeHashes$Mix;", Cond.fieldLink RX1 18 "TreeHashes$Hasher" "key" "[I", Cond.fieldLink RX1 22 "TreeHashes$Hasher" "stack" "[I", Cond.fieldLink RX1 25 "TreeHashes$Hasher" "chunkChain" "[I", Cond.fieldLink RX1 28 "TreeHashes$Hasher" "block" "[I", Cond.fieldLink RX1 31 "TreeHashes$Mix" "START" "[I", Cond.instanceMethod yX2_init, Cond.code yX2_init cX2_init 1 none, Cond.methodLink RX2 3 objectInit, Cond.fieldLink RX2 9 "TreeHashes$Mix" "chain" "[I", Cond.fieldLink RX2 15 "TreeHashes$Mix" "block" "[I"]
def wsX4_init_r3 : List Cond := [Cond.fieldLink RX2 18 "TreeHashes$Mix" "v" "[I", Cond.fieldLink RX2 21 "TreeHashes$Mix" "w" "[I", Cond.fieldLink RX2 24 "TreeHashes$Mix" "nextW" "[I", Cond.methodLink RX1 34 yX1_restart, Cond.instanceMethod yX1_restart, Cond.selects RX1 yX1_restart yX1_restart, Cond.code yX1_restart cX1_restart 5 none, Cond.fieldLink RX1 42 "TreeHashes$Hasher" "mode" "I", Cond.fieldLink RX1 46 "TreeHashes$Hasher" "base" "I", Cond.fieldLink RX1 49 "TreeHashes$Hasher" "firstChunk" "I", Cond.fieldLink RX1 52 "TreeHashes$Hasher" "taken" "I", Cond.fieldLink RX1 55 "TreeHashes$Hasher" "closed" "I", Cond.fieldLink RX1 58 "TreeHashes$Hasher" "depth" "I", Cond.methodLink RX1 38 yX1_copyWords, Cond.static yX1_copyWords, Cond.code yX1_copyWords cX1_copyWords 3 none, Cond.methodLink RX1 61 yX1_startChunk, Cond.instanceMethod yX1_startChunk, Cond.selects RX1 yX1_startChunk yX1_startChunk, Cond.code yX1_startChunk cX1_startChunk 1 none, Cond.fieldLink RX1 64 "TreeHashes$Hasher" "blocks" "I", Cond.methodLink RX1 104 yX1_startBlock, Cond.instanceMethod yX1_startBlock, Cond.selects RX1 yX1_startBlock yX1_startBlock]
def wsX4_init_r4 : List Cond := [Cond.code yX1_startBlock cX1_startBlock 2 none, Cond.fieldLink RX1 67 "TreeHashes$Hasher" "inBlock" "I", Cond.instanceMethod yX3_init, Cond.code yX3_init cX3_init 1 none, Cond.methodLink RX3 1 objectInit, Cond.fieldLink RX3 9 "TreeHashes$Way" "otherFirst" "[I", Cond.fieldLink RX3 13 "TreeHashes$Way" "otherChunks" "[I"]
def wsX4_init : List Cond := .code yX4_init cX4_init 2 none :: ((wsX4_init_r1 ++ (wsX4_init_r2 ++ (wsX4_init_r3 ++ wsX4_init_r4))) ++ wsX40 ++ wsX00 ++ wsX10 ++ wsX30 ++ wsX20)
def wsX4_isRegister : List Cond := .code yX4_isRegister cX4_isRegister 1 (some .boolean) :: ([])
def wsX4_add : List Cond := .code yX4_add cX4_add 6 (some .int) :: ([.fieldLink RX4 11 "TreeHashes" "registers" "[LTreeHashes$Bytes;", .methodLink RX4 47 yX4_isRegister, .static yX4_isRegister, .initialized RX4, .code yX4_isRegister cX4_isRegister 1 (some .boolean), .methodLink RX4 51 yX0_hasRoomFor, .instanceMethod yX0_hasRoomFor, .selects RX0 yX0_hasRoomFor yX0_hasRoomFor, .initialized RX0, .code yX0_hasRoomFor cX0_hasRoomFor 2 (some .boolean), .fieldLink RX0 15 "TreeHashes$Bytes" "row" "[B", .fieldLink RX0 21 "TreeHashes$Bytes" "count" "I", .methodLink RX4 54 yX0_append, .instanceMethod yX0_append, .selects RX0 yX0_append yX0_append, .code yX0_append cX0_append 2 none] ++ wsX40 ++ wsX00)
def wsX4_clear : List Cond := .code yX4_clear cX4_clear 2 (some .int) :: ([.fieldLink RX4 11 "TreeHashes" "registers" "[LTreeHashes$Bytes;", .methodLink RX4 47 yX4_isRegister, .static yX4_isRegister, .initialized RX4, .code yX4_isRegister cX4_isRegister 1 (some .boolean), .methodLink RX4 61 yX0_keepFirst, .instanceMethod yX0_keepFirst, .selects RX0 yX0_keepFirst yX0_keepFirst, .initialized RX0, .code yX0_keepFirst cX0_keepFirst 3 (some .int), .fieldLink RX0 21 "TreeHashes$Bytes" "count" "I"] ++ wsX40 ++ wsX00)
def wsX4_size : List Cond := .code yX4_size cX4_size 2 (some .int) :: ([.fieldLink RX4 11 "TreeHashes" "registers" "[LTreeHashes$Bytes;", .methodLink RX4 47 yX4_isRegister, .static yX4_isRegister, .initialized RX4, .code yX4_isRegister cX4_isRegister 1 (some .boolean)] ++ wsX40 ++ wsX00)
def wsX4_at : List Cond := .code yX4_at cX4_at 3 (some .int) :: ([.fieldLink RX4 11 "TreeHashes" "registers" "[LTreeHashes$Bytes;", .methodLink RX4 47 yX4_isRegister, .static yX4_isRegister, .initialized RX4, .code yX4_isRegister cX4_isRegister 1 (some .boolean), .methodLink RX4 65 yX0_byteAt, .instanceMethod yX0_byteAt, .selects RX0 yX0_byteAt yX0_byteAt, .initialized RX0, .code yX0_byteAt cX0_byteAt 2 (some .int), .fieldLink RX0 21 "TreeHashes$Bytes" "count" "I", .fieldLink RX0 15 "TreeHashes$Bytes" "row" "[B"] ++ wsX40 ++ wsX00)
def wsX4_isHasher : List Cond := .code yX4_isHasher cX4_isHasher 1 (some .boolean) :: ([])
def wsX4_deriveKey_r1 : List Cond := [Cond.fieldLink RX4 32 "TreeHashes" "worker" "LTreeHashes$Hasher;", Cond.fieldLink RX4 71 "TreeHashes$Mix" "START" "[I", Cond.fieldLink RX4 43 "TreeHashes" "words" "[I", Cond.methodLink RX4 76 yX1_restart, Cond.instanceMethod yX1_restart, Cond.selects RX1 yX1_restart yX1_restart, Cond.initialized RX1, Cond.code yX1_restart cX1_restart 5 none, Cond.fieldLink RX1 18 "TreeHashes$Hasher" "key" "[I", Cond.fieldLink RX1 42 "TreeHashes$Hasher" "mode" "I", Cond.fieldLink RX1 46 "TreeHashes$Hasher" "base" "I", Cond.fieldLink RX1 49 "TreeHashes$Hasher" "firstChunk" "I", Cond.fieldLink RX1 52 "TreeHashes$Hasher" "taken" "I", Cond.fieldLink RX1 55 "TreeHashes$Hasher" "closed" "I", Cond.fieldLink RX1 58 "TreeHashes$Hasher" "depth" "I", Cond.methodLink RX1 38 yX1_copyWords, Cond.static yX1_copyWords, Cond.code yX1_copyWords cX1_copyWords 3 none, Cond.methodLink RX1 61 yX1_startChunk, Cond.instanceMethod yX1_startChunk, Cond.selects RX1 yX1_startChunk yX1_startChunk, Cond.code yX1_startChunk cX1_startChunk 1 none, Cond.fieldLink RX1 25 "TreeHashes$Hasher" "chunkChain" "[I", Cond.fieldLink RX1 64 "TreeHashes$Hasher" "blocks" "I"]
def wsX4_deriveKey_r2 : List Cond := [Cond.methodLink RX1 104 yX1_startBlock, Cond.instanceMethod yX1_startBlock, Cond.selects RX1 yX1_startBlock yX1_startBlock, Cond.code yX1_startBlock cX1_startBlock 2 none, Cond.fieldLink RX1 28 "TreeHashes$Hasher" "block" "[I", Cond.fieldLink RX1 67 "TreeHashes$Hasher" "inBlock" "I", Cond.methodLink RX4 92 yX1_absorb, Cond.instanceMethod yX1_absorb, Cond.selects RX1 yX1_absorb yX1_absorb, Cond.code yX1_absorb cX1_absorb 5 none, Cond.methodLink RX1 70 yX0_byteAt, Cond.instanceMethod yX0_byteAt, Cond.selects RX0 yX0_byteAt yX0_byteAt, Cond.initialized RX0, Cond.code yX0_byteAt cX0_byteAt 2 (some .int), Cond.fieldLink RX0 21 "TreeHashes$Bytes" "count" "I", Cond.fieldLink RX0 15 "TreeHashes$Bytes" "row" "[B", Cond.methodLink RX1 76 yX1_absorbByte, Cond.instanceMethod yX1_absorbByte, Cond.selects RX1 yX1_absorbByte yX1_absorbByte, Cond.code yX1_absorbByte cX1_absorbByte 2 none, Cond.methodLink RX1 80 yX1_closeChunk, Cond.instanceMethod yX1_closeChunk, Cond.selects RX1 yX1_closeChunk yX1_closeChunk]
def wsX4_deriveKey_r3 : List Cond := [Cond.code yX1_closeChunk cX1_closeChunk 2 none, Cond.fieldLink RX1 14 "TreeHashes$Hasher" "mix" "LTreeHashes$Mix;", Cond.fieldLink RX1 22 "TreeHashes$Hasher" "stack" "[I", Cond.methodLink RX1 86 yX1_prepareBlock, Cond.instanceMethod yX1_prepareBlock, Cond.selects RX1 yX1_prepareBlock yX1_prepareBlock, Cond.code yX1_prepareBlock cX1_prepareBlock 3 none, Cond.methodLink RX1 96 yX2_prepare, Cond.instanceMethod yX2_prepare, Cond.selects RX2 yX2_prepare yX2_prepare, Cond.initialized RX2, Cond.code yX2_prepare cX2_prepare 8 none, Cond.fieldLink RX2 9 "TreeHashes$Mix" "chain" "[I", Cond.fieldLink RX2 15 "TreeHashes$Mix" "block" "[I", Cond.fieldLink RX2 27 "TreeHashes$Mix" "count" "J", Cond.fieldLink RX2 31 "TreeHashes$Mix" "length" "I", Cond.fieldLink RX2 35 "TreeHashes$Mix" "flags" "I", Cond.methodLink RX1 89 yX2_run, Cond.instanceMethod yX2_run, Cond.selects RX2 yX2_run yX2_run, Cond.code yX2_run cX2_run 2 none, Cond.fieldLink RX2 21 "TreeHashes$Mix" "w" "[I", Cond.fieldLink RX2 18 "TreeHashes$Mix" "v" "[I", Cond.methodLink RX2 66 yX2_fillIn]
def wsX4_deriveKey_r4 : List Cond := [Cond.instanceMethod yX2_fillIn, Cond.selects RX2 yX2_fillIn yX2_fillIn, Cond.code yX2_fillIn cX2_fillIn 2 none, Cond.fieldLink RX2 76 "TreeHashes$Mix" "START" "[I", Cond.methodLink RX2 69 yX2_turn, Cond.instanceMethod yX2_turn, Cond.selects RX2 yX2_turn yX2_turn, Cond.code yX2_turn cX2_turn 11 none, Cond.methodLink RX2 73 yX2_reorder, Cond.instanceMethod yX2_reorder, Cond.selects RX2 yX2_reorder yX2_reorder, Cond.code yX2_reorder cX2_reorder 2 none, Cond.fieldLink RX2 24 "TreeHashes$Mix" "nextW" "[I", Cond.fieldLink RX2 79 "TreeHashes$Mix" "ORDER" "[I", Cond.methodLink RX1 92 yX2_joinBehind, Cond.instanceMethod yX2_joinBehind, Cond.selects RX2 yX2_joinBehind yX2_joinBehind, Cond.code yX2_joinBehind cX2_joinBehind 6 none, Cond.methodLink RX2 38 yX2_prepare, Cond.methodLink RX1 100 yX2_writeChain, Cond.instanceMethod yX2_writeChain, Cond.selects RX2 yX2_writeChain yX2_writeChain, Cond.code yX2_writeChain cX2_writeChain 4 none, Cond.methodLink RX1 83 yX1_closeBlock]
def wsX4_deriveKey_r5 : List Cond := [Cond.instanceMethod yX1_closeBlock, Cond.selects RX1 yX1_closeBlock yX1_closeBlock, Cond.code yX1_closeBlock cX1_closeBlock 1 none, Cond.methodLink RX4 101 yX1_prepareLast, Cond.instanceMethod yX1_prepareLast, Cond.selects RX1 yX1_prepareLast yX1_prepareLast, Cond.code yX1_prepareLast cX1_prepareLast 2 none, Cond.methodLink RX4 190 yX2_makeRoot, Cond.instanceMethod yX2_makeRoot, Cond.selects RX2 yX2_makeRoot yX2_makeRoot, Cond.code yX2_makeRoot cX2_makeRoot 1 none, Cond.methodLink RX4 171 yX2_run, Cond.methodLink RX4 174 yX2_writeChain]
def wsX4_deriveKey : List Cond := .code yX4_deriveKey cX4_deriveKey 2 none :: ((wsX4_deriveKey_r1 ++ (wsX4_deriveKey_r2 ++ (wsX4_deriveKey_r3 ++ (wsX4_deriveKey_r4 ++ wsX4_deriveKey_r5)))) ++ wsX40 ++ wsX00 ++ wsX10 ++ wsX20)
def wsX4_begin_r1 : List Cond := [Cond.fieldLink RX4 17 "TreeHashes" "hashers" "[LTreeHashes$Hasher;", Cond.fieldLink RX4 71 "TreeHashes$Mix" "START" "[I", Cond.fieldLink RX4 11 "TreeHashes" "registers" "[LTreeHashes$Bytes;", Cond.fieldLink RX4 43 "TreeHashes" "words" "[I", Cond.methodLink RX4 68 yX4_isHasher, Cond.static yX4_isHasher, Cond.initialized RX4, Cond.code yX4_isHasher cX4_isHasher 1 (some .boolean), Cond.methodLink RX4 76 yX1_restart, Cond.instanceMethod yX1_restart, Cond.selects RX1 yX1_restart yX1_restart, Cond.initialized RX1, Cond.code yX1_restart cX1_restart 5 none, Cond.fieldLink RX1 18 "TreeHashes$Hasher" "key" "[I", Cond.fieldLink RX1 42 "TreeHashes$Hasher" "mode" "I", Cond.fieldLink RX1 46 "TreeHashes$Hasher" "base" "I", Cond.fieldLink RX1 49 "TreeHashes$Hasher" "firstChunk" "I", Cond.fieldLink RX1 52 "TreeHashes$Hasher" "taken" "I", Cond.fieldLink RX1 55 "TreeHashes$Hasher" "closed" "I", Cond.fieldLink RX1 58 "TreeHashes$Hasher" "depth" "I", Cond.methodLink RX1 38 yX1_copyWords, Cond.static yX1_copyWords, Cond.code yX1_copyWords cX1_copyWords 3 none, Cond.methodLink RX1 61 yX1_startChunk]
def wsX4_begin_r2 : List Cond := [Cond.instanceMethod yX1_startChunk, Cond.selects RX1 yX1_startChunk yX1_startChunk, Cond.code yX1_startChunk cX1_startChunk 1 none, Cond.fieldLink RX1 25 "TreeHashes$Hasher" "chunkChain" "[I", Cond.fieldLink RX1 64 "TreeHashes$Hasher" "blocks" "I", Cond.methodLink RX1 104 yX1_startBlock, Cond.instanceMethod yX1_startBlock, Cond.selects RX1 yX1_startBlock yX1_startBlock, Cond.code yX1_startBlock cX1_startBlock 2 none, Cond.fieldLink RX1 28 "TreeHashes$Hasher" "block" "[I", Cond.fieldLink RX1 67 "TreeHashes$Hasher" "inBlock" "I", Cond.methodLink RX4 47 yX4_isRegister, Cond.static yX4_isRegister, Cond.code yX4_isRegister cX4_isRegister 1 (some .boolean), Cond.methodLink RX4 80 yX0_readChain, Cond.instanceMethod yX0_readChain, Cond.selects RX0 yX0_readChain yX0_readChain, Cond.initialized RX0, Cond.code yX0_readChain cX0_readChain 4 none, Cond.methodLink RX0 33 yX0_wordAt, Cond.instanceMethod yX0_wordAt, Cond.selects RX0 yX0_wordAt yX0_wordAt, Cond.code yX0_wordAt cX0_wordAt 2 (some .int), Cond.methodLink RX0 29 yX0_byteAt]
def wsX4_begin_r3 : List Cond := [Cond.instanceMethod yX0_byteAt, Cond.selects RX0 yX0_byteAt yX0_byteAt, Cond.code yX0_byteAt cX0_byteAt 2 (some .int), Cond.fieldLink RX0 21 "TreeHashes$Bytes" "count" "I", Cond.fieldLink RX0 15 "TreeHashes$Bytes" "row" "[B", Cond.methodLink RX4 84 yX4_deriveKey, Cond.instanceMethod yX4_deriveKey, Cond.selects RX4 yX4_deriveKey yX4_deriveKey, Cond.code yX4_deriveKey cX4_deriveKey 2 none, Cond.fieldLink RX4 32 "TreeHashes" "worker" "LTreeHashes$Hasher;", Cond.methodLink RX4 92 yX1_absorb, Cond.instanceMethod yX1_absorb, Cond.selects RX1 yX1_absorb yX1_absorb, Cond.code yX1_absorb cX1_absorb 5 none, Cond.methodLink RX1 70 yX0_byteAt, Cond.methodLink RX1 76 yX1_absorbByte, Cond.instanceMethod yX1_absorbByte, Cond.selects RX1 yX1_absorbByte yX1_absorbByte, Cond.code yX1_absorbByte cX1_absorbByte 2 none, Cond.methodLink RX1 80 yX1_closeChunk, Cond.instanceMethod yX1_closeChunk, Cond.selects RX1 yX1_closeChunk yX1_closeChunk, Cond.code yX1_closeChunk cX1_closeChunk 2 none, Cond.fieldLink RX1 14 "TreeHashes$Hasher" "mix" "LTreeHashes$Mix;"]
def wsX4_begin_r4 : List Cond := [Cond.fieldLink RX1 22 "TreeHashes$Hasher" "stack" "[I", Cond.methodLink RX1 86 yX1_prepareBlock, Cond.instanceMethod yX1_prepareBlock, Cond.selects RX1 yX1_prepareBlock yX1_prepareBlock, Cond.code yX1_prepareBlock cX1_prepareBlock 3 none, Cond.methodLink RX1 96 yX2_prepare, Cond.instanceMethod yX2_prepare, Cond.selects RX2 yX2_prepare yX2_prepare, Cond.initialized RX2, Cond.code yX2_prepare cX2_prepare 8 none, Cond.fieldLink RX2 9 "TreeHashes$Mix" "chain" "[I", Cond.fieldLink RX2 15 "TreeHashes$Mix" "block" "[I", Cond.fieldLink RX2 27 "TreeHashes$Mix" "count" "J", Cond.fieldLink RX2 31 "TreeHashes$Mix" "length" "I", Cond.fieldLink RX2 35 "TreeHashes$Mix" "flags" "I", Cond.methodLink RX1 89 yX2_run, Cond.instanceMethod yX2_run, Cond.selects RX2 yX2_run yX2_run, Cond.code yX2_run cX2_run 2 none, Cond.fieldLink RX2 21 "TreeHashes$Mix" "w" "[I", Cond.fieldLink RX2 18 "TreeHashes$Mix" "v" "[I", Cond.methodLink RX2 66 yX2_fillIn, Cond.instanceMethod yX2_fillIn, Cond.selects RX2 yX2_fillIn yX2_fillIn]
def wsX4_begin_r5 : List Cond := [Cond.code yX2_fillIn cX2_fillIn 2 none, Cond.fieldLink RX2 76 "TreeHashes$Mix" "START" "[I", Cond.methodLink RX2 69 yX2_turn, Cond.instanceMethod yX2_turn, Cond.selects RX2 yX2_turn yX2_turn, Cond.code yX2_turn cX2_turn 11 none, Cond.methodLink RX2 73 yX2_reorder, Cond.instanceMethod yX2_reorder, Cond.selects RX2 yX2_reorder yX2_reorder, Cond.code yX2_reorder cX2_reorder 2 none, Cond.fieldLink RX2 24 "TreeHashes$Mix" "nextW" "[I", Cond.fieldLink RX2 79 "TreeHashes$Mix" "ORDER" "[I", Cond.methodLink RX1 92 yX2_joinBehind, Cond.instanceMethod yX2_joinBehind, Cond.selects RX2 yX2_joinBehind yX2_joinBehind, Cond.code yX2_joinBehind cX2_joinBehind 6 none, Cond.methodLink RX2 38 yX2_prepare, Cond.methodLink RX1 100 yX2_writeChain, Cond.instanceMethod yX2_writeChain, Cond.selects RX2 yX2_writeChain yX2_writeChain, Cond.code yX2_writeChain cX2_writeChain 4 none, Cond.methodLink RX1 83 yX1_closeBlock, Cond.instanceMethod yX1_closeBlock, Cond.selects RX1 yX1_closeBlock yX1_closeBlock]
def wsX4_begin_r6 : List Cond := [Cond.code yX1_closeBlock cX1_closeBlock 1 none, Cond.methodLink RX4 101 yX1_prepareLast, Cond.instanceMethod yX1_prepareLast, Cond.selects RX1 yX1_prepareLast yX1_prepareLast, Cond.code yX1_prepareLast cX1_prepareLast 2 none, Cond.methodLink RX4 190 yX2_makeRoot, Cond.instanceMethod yX2_makeRoot, Cond.selects RX2 yX2_makeRoot yX2_makeRoot, Cond.code yX2_makeRoot cX2_makeRoot 1 none, Cond.methodLink RX4 171 yX2_run, Cond.methodLink RX4 174 yX2_writeChain]
def wsX4_begin : List Cond := .code yX4_begin cX4_begin 4 (some .int) :: ((wsX4_begin_r1 ++ (wsX4_begin_r2 ++ (wsX4_begin_r3 ++ (wsX4_begin_r4 ++ (wsX4_begin_r5 ++ wsX4_begin_r6))))) ++ wsX40 ++ wsX00 ++ wsX10 ++ wsX20)
def wsX4_take_r1 : List Cond := [Cond.fieldLink RX4 11 "TreeHashes" "registers" "[LTreeHashes$Bytes;", Cond.constant RX4 88 (40000), Cond.fieldLink RX4 17 "TreeHashes" "hashers" "[LTreeHashes$Hasher;", Cond.methodLink RX4 68 yX4_isHasher, Cond.static yX4_isHasher, Cond.initialized RX4, Cond.code yX4_isHasher cX4_isHasher 1 (some .boolean), Cond.methodLink RX4 47 yX4_isRegister, Cond.static yX4_isRegister, Cond.code yX4_isRegister cX4_isRegister 1 (some .boolean), Cond.methodLink RX4 92 yX1_absorb, Cond.instanceMethod yX1_absorb, Cond.selects RX1 yX1_absorb yX1_absorb, Cond.initialized RX1, Cond.code yX1_absorb cX1_absorb 5 none, Cond.methodLink RX1 70 yX0_byteAt, Cond.instanceMethod yX0_byteAt, Cond.selects RX0 yX0_byteAt yX0_byteAt, Cond.initialized RX0, Cond.code yX0_byteAt cX0_byteAt 2 (some .int), Cond.fieldLink RX0 21 "TreeHashes$Bytes" "count" "I", Cond.fieldLink RX0 15 "TreeHashes$Bytes" "row" "[B", Cond.methodLink RX1 76 yX1_absorbByte, Cond.instanceMethod yX1_absorbByte]
def wsX4_take_r2 : List Cond := [Cond.selects RX1 yX1_absorbByte yX1_absorbByte, Cond.code yX1_absorbByte cX1_absorbByte 2 none, Cond.fieldLink RX1 67 "TreeHashes$Hasher" "inBlock" "I", Cond.fieldLink RX1 64 "TreeHashes$Hasher" "blocks" "I", Cond.fieldLink RX1 28 "TreeHashes$Hasher" "block" "[I", Cond.fieldLink RX1 52 "TreeHashes$Hasher" "taken" "I", Cond.methodLink RX1 80 yX1_closeChunk, Cond.instanceMethod yX1_closeChunk, Cond.selects RX1 yX1_closeChunk yX1_closeChunk, Cond.code yX1_closeChunk cX1_closeChunk 2 none, Cond.fieldLink RX1 14 "TreeHashes$Hasher" "mix" "LTreeHashes$Mix;", Cond.fieldLink RX1 55 "TreeHashes$Hasher" "closed" "I", Cond.fieldLink RX1 58 "TreeHashes$Hasher" "depth" "I", Cond.fieldLink RX1 22 "TreeHashes$Hasher" "stack" "[I", Cond.fieldLink RX1 18 "TreeHashes$Hasher" "key" "[I", Cond.fieldLink RX1 46 "TreeHashes$Hasher" "base" "I", Cond.methodLink RX1 86 yX1_prepareBlock, Cond.instanceMethod yX1_prepareBlock, Cond.selects RX1 yX1_prepareBlock yX1_prepareBlock, Cond.code yX1_prepareBlock cX1_prepareBlock 3 none, Cond.fieldLink RX1 25 "TreeHashes$Hasher" "chunkChain" "[I", Cond.fieldLink RX1 49 "TreeHashes$Hasher" "firstChunk" "I", Cond.methodLink RX1 96 yX2_prepare, Cond.instanceMethod yX2_prepare]
def wsX4_take_r3 : List Cond := [Cond.selects RX2 yX2_prepare yX2_prepare, Cond.initialized RX2, Cond.code yX2_prepare cX2_prepare 8 none, Cond.fieldLink RX2 9 "TreeHashes$Mix" "chain" "[I", Cond.fieldLink RX2 15 "TreeHashes$Mix" "block" "[I", Cond.fieldLink RX2 27 "TreeHashes$Mix" "count" "J", Cond.fieldLink RX2 31 "TreeHashes$Mix" "length" "I", Cond.fieldLink RX2 35 "TreeHashes$Mix" "flags" "I", Cond.methodLink RX1 89 yX2_run, Cond.instanceMethod yX2_run, Cond.selects RX2 yX2_run yX2_run, Cond.code yX2_run cX2_run 2 none, Cond.fieldLink RX2 21 "TreeHashes$Mix" "w" "[I", Cond.fieldLink RX2 18 "TreeHashes$Mix" "v" "[I", Cond.methodLink RX2 66 yX2_fillIn, Cond.instanceMethod yX2_fillIn, Cond.selects RX2 yX2_fillIn yX2_fillIn, Cond.code yX2_fillIn cX2_fillIn 2 none, Cond.fieldLink RX2 76 "TreeHashes$Mix" "START" "[I", Cond.methodLink RX2 69 yX2_turn, Cond.instanceMethod yX2_turn, Cond.selects RX2 yX2_turn yX2_turn, Cond.code yX2_turn cX2_turn 11 none, Cond.methodLink RX2 73 yX2_reorder]
def wsX4_take_r4 : List Cond := [Cond.instanceMethod yX2_reorder, Cond.selects RX2 yX2_reorder yX2_reorder, Cond.code yX2_reorder cX2_reorder 2 none, Cond.fieldLink RX2 24 "TreeHashes$Mix" "nextW" "[I", Cond.fieldLink RX2 79 "TreeHashes$Mix" "ORDER" "[I", Cond.methodLink RX1 92 yX2_joinBehind, Cond.instanceMethod yX2_joinBehind, Cond.selects RX2 yX2_joinBehind yX2_joinBehind, Cond.code yX2_joinBehind cX2_joinBehind 6 none, Cond.methodLink RX2 38 yX2_prepare, Cond.methodLink RX1 100 yX2_writeChain, Cond.instanceMethod yX2_writeChain, Cond.selects RX2 yX2_writeChain yX2_writeChain, Cond.code yX2_writeChain cX2_writeChain 4 none, Cond.methodLink RX1 61 yX1_startChunk, Cond.instanceMethod yX1_startChunk, Cond.selects RX1 yX1_startChunk yX1_startChunk, Cond.code yX1_startChunk cX1_startChunk 1 none, Cond.methodLink RX1 38 yX1_copyWords, Cond.static yX1_copyWords, Cond.code yX1_copyWords cX1_copyWords 3 none, Cond.methodLink RX1 104 yX1_startBlock, Cond.instanceMethod yX1_startBlock, Cond.selects RX1 yX1_startBlock yX1_startBlock]
def wsX4_take_r5 : List Cond := [Cond.code yX1_startBlock cX1_startBlock 2 none, Cond.methodLink RX1 83 yX1_closeBlock, Cond.instanceMethod yX1_closeBlock, Cond.selects RX1 yX1_closeBlock yX1_closeBlock, Cond.code yX1_closeBlock cX1_closeBlock 1 none]
def wsX4_take : List Cond := .code yX4_take cX4_take 3 (some .int) :: ((wsX4_take_r1 ++ (wsX4_take_r2 ++ (wsX4_take_r3 ++ (wsX4_take_r4 ++ wsX4_take_r5)))) ++ wsX40 ++ wsX00 ++ wsX10 ++ wsX20)
def wsX4_fill_r1 : List Cond := [Cond.constant RX4 88 (40000), Cond.fieldLink RX4 17 "TreeHashes" "hashers" "[LTreeHashes$Hasher;", Cond.methodLink RX4 68 yX4_isHasher, Cond.static yX4_isHasher, Cond.initialized RX4, Cond.code yX4_isHasher cX4_isHasher 1 (some .boolean), Cond.methodLink RX4 96 yX1_absorbByte, Cond.instanceMethod yX1_absorbByte, Cond.selects RX1 yX1_absorbByte yX1_absorbByte, Cond.initialized RX1, Cond.code yX1_absorbByte cX1_absorbByte 2 none, Cond.fieldLink RX1 67 "TreeHashes$Hasher" "inBlock" "I", Cond.fieldLink RX1 64 "TreeHashes$Hasher" "blocks" "I", Cond.fieldLink RX1 28 "TreeHashes$Hasher" "block" "[I", Cond.fieldLink RX1 52 "TreeHashes$Hasher" "taken" "I", Cond.methodLink RX1 80 yX1_closeChunk, Cond.instanceMethod yX1_closeChunk, Cond.selects RX1 yX1_closeChunk yX1_closeChunk, Cond.code yX1_closeChunk cX1_closeChunk 2 none, Cond.fieldLink RX1 14 "TreeHashes$Hasher" "mix" "LTreeHashes$Mix;", Cond.fieldLink RX1 55 "TreeHashes$Hasher" "closed" "I", Cond.fieldLink RX1 58 "TreeHashes$Hasher" "depth" "I", Cond.fieldLink RX1 22 "TreeHashes$Hasher" "stack" "[I", Cond.fieldLink RX1 18 "TreeHashes$Hasher" "key" "[I"]
def wsX4_fill_r2 : List Cond := [Cond.fieldLink RX1 46 "TreeHashes$Hasher" "base" "I", Cond.methodLink RX1 86 yX1_prepareBlock, Cond.instanceMethod yX1_prepareBlock, Cond.selects RX1 yX1_prepareBlock yX1_prepareBlock, Cond.code yX1_prepareBlock cX1_prepareBlock 3 none, Cond.fieldLink RX1 25 "TreeHashes$Hasher" "chunkChain" "[I", Cond.fieldLink RX1 49 "TreeHashes$Hasher" "firstChunk" "I", Cond.methodLink RX1 96 yX2_prepare, Cond.instanceMethod yX2_prepare, Cond.selects RX2 yX2_prepare yX2_prepare, Cond.initialized RX2, Cond.code yX2_prepare cX2_prepare 8 none, Cond.fieldLink RX2 9 "TreeHashes$Mix" "chain" "[I", Cond.fieldLink RX2 15 "TreeHashes$Mix" "block" "[I", Cond.fieldLink RX2 27 "TreeHashes$Mix" "count" "J", Cond.fieldLink RX2 31 "TreeHashes$Mix" "length" "I", Cond.fieldLink RX2 35 "TreeHashes$Mix" "flags" "I", Cond.methodLink RX1 89 yX2_run, Cond.instanceMethod yX2_run, Cond.selects RX2 yX2_run yX2_run, Cond.code yX2_run cX2_run 2 none, Cond.fieldLink RX2 21 "TreeHashes$Mix" "w" "[I", Cond.fieldLink RX2 18 "TreeHashes$Mix" "v" "[I", Cond.methodLink RX2 66 yX2_fillIn]
def wsX4_fill_r3 : List Cond := [Cond.instanceMethod yX2_fillIn, Cond.selects RX2 yX2_fillIn yX2_fillIn, Cond.code yX2_fillIn cX2_fillIn 2 none, Cond.fieldLink RX2 76 "TreeHashes$Mix" "START" "[I", Cond.methodLink RX2 69 yX2_turn, Cond.instanceMethod yX2_turn, Cond.selects RX2 yX2_turn yX2_turn, Cond.code yX2_turn cX2_turn 11 none, Cond.methodLink RX2 73 yX2_reorder, Cond.instanceMethod yX2_reorder, Cond.selects RX2 yX2_reorder yX2_reorder, Cond.code yX2_reorder cX2_reorder 2 none, Cond.fieldLink RX2 24 "TreeHashes$Mix" "nextW" "[I", Cond.fieldLink RX2 79 "TreeHashes$Mix" "ORDER" "[I", Cond.methodLink RX1 92 yX2_joinBehind, Cond.instanceMethod yX2_joinBehind, Cond.selects RX2 yX2_joinBehind yX2_joinBehind, Cond.code yX2_joinBehind cX2_joinBehind 6 none, Cond.methodLink RX2 38 yX2_prepare, Cond.methodLink RX1 100 yX2_writeChain, Cond.instanceMethod yX2_writeChain, Cond.selects RX2 yX2_writeChain yX2_writeChain, Cond.code yX2_writeChain cX2_writeChain 4 none, Cond.methodLink RX1 61 yX1_startChunk]
def wsX4_fill_r4 : List Cond := [Cond.instanceMethod yX1_startChunk, Cond.selects RX1 yX1_startChunk yX1_startChunk, Cond.code yX1_startChunk cX1_startChunk 1 none, Cond.methodLink RX1 38 yX1_copyWords, Cond.static yX1_copyWords, Cond.code yX1_copyWords cX1_copyWords 3 none, Cond.methodLink RX1 104 yX1_startBlock, Cond.instanceMethod yX1_startBlock, Cond.selects RX1 yX1_startBlock yX1_startBlock, Cond.code yX1_startBlock cX1_startBlock 2 none, Cond.methodLink RX1 83 yX1_closeBlock, Cond.instanceMethod yX1_closeBlock, Cond.selects RX1 yX1_closeBlock yX1_closeBlock, Cond.code yX1_closeBlock cX1_closeBlock 1 none]
def wsX4_fill : List Cond := .code yX4_fill cX4_fill 6 (some .int) :: ((wsX4_fill_r1 ++ (wsX4_fill_r2 ++ (wsX4_fill_r3 ++ wsX4_fill_r4))) ++ wsX40 ++ wsX10 ++ wsX20)
def wsX4_output_r1 : List Cond := [Cond.constantLong RX4 99 (4611686018427387904), Cond.fieldLink RX4 17 "TreeHashes" "hashers" "[LTreeHashes$Hasher;", Cond.fieldLink RX4 11 "TreeHashes" "registers" "[LTreeHashes$Bytes;", Cond.methodLink RX4 68 yX4_isHasher, Cond.static yX4_isHasher, Cond.initialized RX4, Cond.code yX4_isHasher cX4_isHasher 1 (some .boolean), Cond.methodLink RX4 47 yX4_isRegister, Cond.static yX4_isRegister, Cond.code yX4_isRegister cX4_isRegister 1 (some .boolean), Cond.methodLink RX4 101 yX1_prepareLast, Cond.instanceMethod yX1_prepareLast, Cond.selects RX1 yX1_prepareLast yX1_prepareLast, Cond.initialized RX1, Cond.code yX1_prepareLast cX1_prepareLast 2 none, Cond.fieldLink RX1 58 "TreeHashes$Hasher" "depth" "I", Cond.fieldLink RX1 14 "TreeHashes$Hasher" "mix" "LTreeHashes$Mix;", Cond.fieldLink RX1 22 "TreeHashes$Hasher" "stack" "[I", Cond.fieldLink RX1 18 "TreeHashes$Hasher" "key" "[I", Cond.fieldLink RX1 46 "TreeHashes$Hasher" "base" "I", Cond.methodLink RX1 86 yX1_prepareBlock, Cond.instanceMethod yX1_prepareBlock, Cond.selects RX1 yX1_prepareBlock yX1_prepareBlock, Cond.code yX1_prepareBlock cX1_prepareBlock 3 none]
def wsX4_output_r2 : List Cond := [Cond.fieldLink RX1 64 "TreeHashes$Hasher" "blocks" "I", Cond.fieldLink RX1 25 "TreeHashes$Hasher" "chunkChain" "[I", Cond.fieldLink RX1 28 "TreeHashes$Hasher" "block" "[I", Cond.fieldLink RX1 49 "TreeHashes$Hasher" "firstChunk" "I", Cond.fieldLink RX1 55 "TreeHashes$Hasher" "closed" "I", Cond.fieldLink RX1 67 "TreeHashes$Hasher" "inBlock" "I", Cond.methodLink RX1 96 yX2_prepare, Cond.instanceMethod yX2_prepare, Cond.selects RX2 yX2_prepare yX2_prepare, Cond.initialized RX2, Cond.code yX2_prepare cX2_prepare 8 none, Cond.fieldLink RX2 9 "TreeHashes$Mix" "chain" "[I", Cond.fieldLink RX2 15 "TreeHashes$Mix" "block" "[I", Cond.fieldLink RX2 27 "TreeHashes$Mix" "count" "J", Cond.fieldLink RX2 31 "TreeHashes$Mix" "length" "I", Cond.fieldLink RX2 35 "TreeHashes$Mix" "flags" "I", Cond.methodLink RX1 89 yX2_run, Cond.instanceMethod yX2_run, Cond.selects RX2 yX2_run yX2_run, Cond.code yX2_run cX2_run 2 none, Cond.fieldLink RX2 21 "TreeHashes$Mix" "w" "[I", Cond.fieldLink RX2 18 "TreeHashes$Mix" "v" "[I", Cond.methodLink RX2 66 yX2_fillIn, Cond.instanceMethod yX2_fillIn]
def wsX4_output_r3 : List Cond := [Cond.selects RX2 yX2_fillIn yX2_fillIn, Cond.code yX2_fillIn cX2_fillIn 2 none, Cond.fieldLink RX2 76 "TreeHashes$Mix" "START" "[I", Cond.methodLink RX2 69 yX2_turn, Cond.instanceMethod yX2_turn, Cond.selects RX2 yX2_turn yX2_turn, Cond.code yX2_turn cX2_turn 11 none, Cond.methodLink RX2 73 yX2_reorder, Cond.instanceMethod yX2_reorder, Cond.selects RX2 yX2_reorder yX2_reorder, Cond.code yX2_reorder cX2_reorder 2 none, Cond.fieldLink RX2 24 "TreeHashes$Mix" "nextW" "[I", Cond.fieldLink RX2 79 "TreeHashes$Mix" "ORDER" "[I", Cond.methodLink RX1 92 yX2_joinBehind, Cond.instanceMethod yX2_joinBehind, Cond.selects RX2 yX2_joinBehind yX2_joinBehind, Cond.code yX2_joinBehind cX2_joinBehind 6 none, Cond.methodLink RX2 38 yX2_prepare, Cond.methodLink RX4 108 yX2_writeOutput, Cond.instanceMethod yX2_writeOutput, Cond.selects RX2 yX2_writeOutput yX2_writeOutput, Cond.code yX2_writeOutput cX2_writeOutput 7 none, Cond.constantLong RX2 51 (63), Cond.methodLink RX2 42 yX0_keepFirst]
def wsX4_output_r4 : List Cond := [Cond.instanceMethod yX0_keepFirst, Cond.selects RX0 yX0_keepFirst yX0_keepFirst, Cond.initialized RX0, Cond.code yX0_keepFirst cX0_keepFirst 3 (some .int), Cond.fieldLink RX0 21 "TreeHashes$Bytes" "count" "I", Cond.methodLink RX2 48 yX2_makeRoot, Cond.instanceMethod yX2_makeRoot, Cond.selects RX2 yX2_makeRoot yX2_makeRoot, Cond.code yX2_makeRoot cX2_makeRoot 1 none, Cond.methodLink RX2 53 yX2_run, Cond.methodLink RX2 56 yX2_outputByte, Cond.instanceMethod yX2_outputByte, Cond.selects RX2 yX2_outputByte yX2_outputByte, Cond.code yX2_outputByte cX2_outputByte 2 (some .int), Cond.methodLink RX2 59 yX0_append, Cond.instanceMethod yX0_append, Cond.selects RX0 yX0_append yX0_append, Cond.code yX0_append cX0_append 2 none, Cond.fieldLink RX0 15 "TreeHashes$Bytes" "row" "[B"]
def wsX4_output : List Cond := .code yX4_output cX4_output 6 (some .int) :: ((wsX4_output_r1 ++ (wsX4_output_r2 ++ (wsX4_output_r3 ++ wsX4_output_r4))) ++ wsX40 ++ wsX10 ++ wsX20 ++ wsX00)
def wsX4_copy_r1 : List Cond := [Cond.fieldLink RX4 17 "TreeHashes" "hashers" "[LTreeHashes$Hasher;", Cond.methodLink RX4 68 yX4_isHasher, Cond.static yX4_isHasher, Cond.initialized RX4, Cond.code yX4_isHasher cX4_isHasher 1 (some .boolean), Cond.methodLink RX4 112 yX1_becomeAs, Cond.instanceMethod yX1_becomeAs, Cond.selects RX1 yX1_becomeAs yX1_becomeAs, Cond.initialized RX1, Cond.code yX1_becomeAs cX1_becomeAs 2 none, Cond.fieldLink RX1 18 "TreeHashes$Hasher" "key" "[I", Cond.fieldLink RX1 22 "TreeHashes$Hasher" "stack" "[I", Cond.fieldLink RX1 25 "TreeHashes$Hasher" "chunkChain" "[I", Cond.fieldLink RX1 28 "TreeHashes$Hasher" "block" "[I", Cond.fieldLink RX1 42 "TreeHashes$Hasher" "mode" "I", Cond.fieldLink RX1 46 "TreeHashes$Hasher" "base" "I", Cond.fieldLink RX1 49 "TreeHashes$Hasher" "firstChunk" "I", Cond.fieldLink RX1 52 "TreeHashes$Hasher" "taken" "I", Cond.fieldLink RX1 55 "TreeHashes$Hasher" "closed" "I", Cond.fieldLink RX1 58 "TreeHashes$Hasher" "depth" "I", Cond.fieldLink RX1 64 "TreeHashes$Hasher" "blocks" "I", Cond.fieldLink RX1 67 "TreeHashes$Hasher" "inBlock" "I", Cond.methodLink RX1 38 yX1_copyWords, Cond.static yX1_copyWords]
def wsX4_copy_r2 : List Cond := [Cond.code yX1_copyWords cX1_copyWords 3 none]
def wsX4_copy : List Cond := .code yX4_copy cX4_copy 3 (some .int) :: ((wsX4_copy_r1 ++ wsX4_copy_r2) ++ wsX40 ++ wsX10)
def wsX4_told : List Cond := .code yX4_told cX4_told 3 (some .int) :: ([.fieldLink RX4 17 "TreeHashes" "hashers" "[LTreeHashes$Hasher;", .methodLink RX4 68 yX4_isHasher, .static yX4_isHasher, .initialized RX4, .code yX4_isHasher cX4_isHasher 1 (some .boolean), .methodLink RX4 125 yX1_inChunk, .instanceMethod yX1_inChunk, .selects RX1 yX1_inChunk yX1_inChunk, .initialized RX1, .code yX1_inChunk cX1_inChunk 1 (some .int), .fieldLink RX1 64 "TreeHashes$Hasher" "blocks" "I", .fieldLink RX1 67 "TreeHashes$Hasher" "inBlock" "I"] ++ wsX40 ++ wsX10)
def wsX4_chain : List Cond := .code yX4_chain cX4_chain 4 (some .int) :: ([.fieldLink RX4 17 "TreeHashes" "hashers" "[LTreeHashes$Hasher;", .methodLink RX4 68 yX4_isHasher, .static yX4_isHasher, .initialized RX4, .code yX4_isHasher cX4_isHasher 1 (some .boolean), .methodLink RX4 129 yX1_stackWord, .instanceMethod yX1_stackWord, .selects RX1 yX1_stackWord yX1_stackWord, .initialized RX1, .code yX1_stackWord cX1_stackWord 3 (some .int), .fieldLink RX1 58 "TreeHashes$Hasher" "depth" "I", .fieldLink RX1 22 "TreeHashes$Hasher" "stack" "[I"] ++ wsX40 ++ wsX10)
def wsX4_grow : List Cond := .code yX4_grow cX4_grow 5 (some .int) :: ([.fieldLink RX4 24 "TreeHashes" "file" "LTreeHashes$Bytes;", .methodLink RX4 51 yX0_hasRoomFor, .instanceMethod yX0_hasRoomFor, .selects RX0 yX0_hasRoomFor yX0_hasRoomFor, .initialized RX0, .code yX0_hasRoomFor cX0_hasRoomFor 2 (some .boolean), .fieldLink RX0 15 "TreeHashes$Bytes" "row" "[B", .fieldLink RX0 21 "TreeHashes$Bytes" "count" "I", .methodLink RX4 54 yX0_append, .instanceMethod yX0_append, .selects RX0 yX0_append yX0_append, .code yX0_append cX0_append 2 none] ++ wsX40 ++ wsX00)
def wsX4_spoil : List Cond := .code yX4_spoil cX4_spoil 3 (some .int) :: ([.fieldLink RX4 24 "TreeHashes" "file" "LTreeHashes$Bytes;", .methodLink RX4 133 yX0_change, .instanceMethod yX0_change, .selects RX0 yX0_change yX0_change, .initialized RX0, .code yX0_change cX0_change 3 (some .int), .fieldLink RX0 21 "TreeHashes$Bytes" "count" "I", .fieldLink RX0 15 "TreeHashes$Bytes" "row" "[B"] ++ wsX40 ++ wsX00)
def wsX4_shorten : List Cond := .code yX4_shorten cX4_shorten 2 (some .int) :: ([.fieldLink RX4 24 "TreeHashes" "file" "LTreeHashes$Bytes;", .methodLink RX4 61 yX0_keepFirst, .instanceMethod yX0_keepFirst, .selects RX0 yX0_keepFirst yX0_keepFirst, .initialized RX0, .code yX0_keepFirst cX0_keepFirst 3 (some .int), .fieldLink RX0 21 "TreeHashes$Bytes" "count" "I"] ++ wsX40 ++ wsX00)
def wsX4_prepareTree_r1 : List Cond := [Cond.fieldLink RX4 32 "TreeHashes" "worker" "LTreeHashes$Hasher;", Cond.fieldLink RX4 71 "TreeHashes$Mix" "START" "[I", Cond.methodLink RX4 76 yX1_restart, Cond.instanceMethod yX1_restart, Cond.selects RX1 yX1_restart yX1_restart, Cond.initialized RX1, Cond.code yX1_restart cX1_restart 5 none, Cond.fieldLink RX1 18 "TreeHashes$Hasher" "key" "[I", Cond.fieldLink RX1 42 "TreeHashes$Hasher" "mode" "I", Cond.fieldLink RX1 46 "TreeHashes$Hasher" "base" "I", Cond.fieldLink RX1 49 "TreeHashes$Hasher" "firstChunk" "I", Cond.fieldLink RX1 52 "TreeHashes$Hasher" "taken" "I", Cond.fieldLink RX1 55 "TreeHashes$Hasher" "closed" "I", Cond.fieldLink RX1 58 "TreeHashes$Hasher" "depth" "I", Cond.methodLink RX1 38 yX1_copyWords, Cond.static yX1_copyWords, Cond.code yX1_copyWords cX1_copyWords 3 none, Cond.methodLink RX1 61 yX1_startChunk, Cond.instanceMethod yX1_startChunk, Cond.selects RX1 yX1_startChunk yX1_startChunk, Cond.code yX1_startChunk cX1_startChunk 1 none, Cond.fieldLink RX1 25 "TreeHashes$Hasher" "chunkChain" "[I", Cond.fieldLink RX1 64 "TreeHashes$Hasher" "blocks" "I", Cond.methodLink RX1 104 yX1_startBlock]
def wsX4_prepareTree_r2 : List Cond := [Cond.instanceMethod yX1_startBlock, Cond.selects RX1 yX1_startBlock yX1_startBlock, Cond.code yX1_startBlock cX1_startBlock 2 none, Cond.fieldLink RX1 28 "TreeHashes$Hasher" "block" "[I", Cond.fieldLink RX1 67 "TreeHashes$Hasher" "inBlock" "I", Cond.methodLink RX4 92 yX1_absorb, Cond.instanceMethod yX1_absorb, Cond.selects RX1 yX1_absorb yX1_absorb, Cond.code yX1_absorb cX1_absorb 5 none, Cond.methodLink RX1 70 yX0_byteAt, Cond.instanceMethod yX0_byteAt, Cond.selects RX0 yX0_byteAt yX0_byteAt, Cond.initialized RX0, Cond.code yX0_byteAt cX0_byteAt 2 (some .int), Cond.fieldLink RX0 21 "TreeHashes$Bytes" "count" "I", Cond.fieldLink RX0 15 "TreeHashes$Bytes" "row" "[B", Cond.methodLink RX1 76 yX1_absorbByte, Cond.instanceMethod yX1_absorbByte, Cond.selects RX1 yX1_absorbByte yX1_absorbByte, Cond.code yX1_absorbByte cX1_absorbByte 2 none, Cond.methodLink RX1 80 yX1_closeChunk, Cond.instanceMethod yX1_closeChunk, Cond.selects RX1 yX1_closeChunk yX1_closeChunk, Cond.code yX1_closeChunk cX1_closeChunk 2 none]
def wsX4_prepareTree_r3 : List Cond := [Cond.fieldLink RX1 14 "TreeHashes$Hasher" "mix" "LTreeHashes$Mix;", Cond.fieldLink RX1 22 "TreeHashes$Hasher" "stack" "[I", Cond.methodLink RX1 86 yX1_prepareBlock, Cond.instanceMethod yX1_prepareBlock, Cond.selects RX1 yX1_prepareBlock yX1_prepareBlock, Cond.code yX1_prepareBlock cX1_prepareBlock 3 none, Cond.methodLink RX1 96 yX2_prepare, Cond.instanceMethod yX2_prepare, Cond.selects RX2 yX2_prepare yX2_prepare, Cond.initialized RX2, Cond.code yX2_prepare cX2_prepare 8 none, Cond.fieldLink RX2 9 "TreeHashes$Mix" "chain" "[I", Cond.fieldLink RX2 15 "TreeHashes$Mix" "block" "[I", Cond.fieldLink RX2 27 "TreeHashes$Mix" "count" "J", Cond.fieldLink RX2 31 "TreeHashes$Mix" "length" "I", Cond.fieldLink RX2 35 "TreeHashes$Mix" "flags" "I", Cond.methodLink RX1 89 yX2_run, Cond.instanceMethod yX2_run, Cond.selects RX2 yX2_run yX2_run, Cond.code yX2_run cX2_run 2 none, Cond.fieldLink RX2 21 "TreeHashes$Mix" "w" "[I", Cond.fieldLink RX2 18 "TreeHashes$Mix" "v" "[I", Cond.methodLink RX2 66 yX2_fillIn, Cond.instanceMethod yX2_fillIn]
def wsX4_prepareTree_r4 : List Cond := [Cond.selects RX2 yX2_fillIn yX2_fillIn, Cond.code yX2_fillIn cX2_fillIn 2 none, Cond.fieldLink RX2 76 "TreeHashes$Mix" "START" "[I", Cond.methodLink RX2 69 yX2_turn, Cond.instanceMethod yX2_turn, Cond.selects RX2 yX2_turn yX2_turn, Cond.code yX2_turn cX2_turn 11 none, Cond.methodLink RX2 73 yX2_reorder, Cond.instanceMethod yX2_reorder, Cond.selects RX2 yX2_reorder yX2_reorder, Cond.code yX2_reorder cX2_reorder 2 none, Cond.fieldLink RX2 24 "TreeHashes$Mix" "nextW" "[I", Cond.fieldLink RX2 79 "TreeHashes$Mix" "ORDER" "[I", Cond.methodLink RX1 92 yX2_joinBehind, Cond.instanceMethod yX2_joinBehind, Cond.selects RX2 yX2_joinBehind yX2_joinBehind, Cond.code yX2_joinBehind cX2_joinBehind 6 none, Cond.methodLink RX2 38 yX2_prepare, Cond.methodLink RX1 100 yX2_writeChain, Cond.instanceMethod yX2_writeChain, Cond.selects RX2 yX2_writeChain yX2_writeChain, Cond.code yX2_writeChain cX2_writeChain 4 none, Cond.methodLink RX1 83 yX1_closeBlock, Cond.instanceMethod yX1_closeBlock]
def wsX4_prepareTree_r5 : List Cond := [Cond.selects RX1 yX1_closeBlock yX1_closeBlock, Cond.code yX1_closeBlock cX1_closeBlock 1 none, Cond.methodLink RX4 101 yX1_prepareLast, Cond.instanceMethod yX1_prepareLast, Cond.selects RX1 yX1_prepareLast yX1_prepareLast, Cond.code yX1_prepareLast cX1_prepareLast 2 none]
def wsX4_prepareTree : List Cond := .code yX4_prepareTree cX4_prepareTree 5 none :: ((wsX4_prepareTree_r1 ++ (wsX4_prepareTree_r2 ++ (wsX4_prepareTree_r3 ++ (wsX4_prepareTree_r4 ++ wsX4_prepareTree_r5)))) ++ wsX40 ++ wsX10 ++ wsX00 ++ wsX20)
def wsX4_root_r1 : List Cond := [Cond.fieldLink RX4 24 "TreeHashes" "file" "LTreeHashes$Bytes;", Cond.fieldLink RX4 32 "TreeHashes" "worker" "LTreeHashes$Hasher;", Cond.fieldLink RX4 11 "TreeHashes" "registers" "[LTreeHashes$Bytes;", Cond.methodLink RX4 47 yX4_isRegister, Cond.static yX4_isRegister, Cond.initialized RX4, Cond.code yX4_isRegister cX4_isRegister 1 (some .boolean), Cond.methodLink RX4 136 yX4_prepareTree, Cond.instanceMethod yX4_prepareTree, Cond.selects RX4 yX4_prepareTree yX4_prepareTree, Cond.code yX4_prepareTree cX4_prepareTree 5 none, Cond.fieldLink RX4 71 "TreeHashes$Mix" "START" "[I", Cond.methodLink RX4 76 yX1_restart, Cond.instanceMethod yX1_restart, Cond.selects RX1 yX1_restart yX1_restart, Cond.initialized RX1, Cond.code yX1_restart cX1_restart 5 none, Cond.fieldLink RX1 18 "TreeHashes$Hasher" "key" "[I", Cond.fieldLink RX1 42 "TreeHashes$Hasher" "mode" "I", Cond.fieldLink RX1 46 "TreeHashes$Hasher" "base" "I", Cond.fieldLink RX1 49 "TreeHashes$Hasher" "firstChunk" "I", Cond.fieldLink RX1 52 "TreeHashes$Hasher" "taken" "I", Cond.fieldLink RX1 55 "TreeHashes$Hasher" "closed" "I", Cond.fieldLink RX1 58 "TreeHashes$Hasher" "depth" "I"]
def wsX4_root_r2 : List Cond := [Cond.methodLink RX1 38 yX1_copyWords, Cond.static yX1_copyWords, Cond.code yX1_copyWords cX1_copyWords 3 none, Cond.methodLink RX1 61 yX1_startChunk, Cond.instanceMethod yX1_startChunk, Cond.selects RX1 yX1_startChunk yX1_startChunk, Cond.code yX1_startChunk cX1_startChunk 1 none, Cond.fieldLink RX1 25 "TreeHashes$Hasher" "chunkChain" "[I", Cond.fieldLink RX1 64 "TreeHashes$Hasher" "blocks" "I", Cond.methodLink RX1 104 yX1_startBlock, Cond.instanceMethod yX1_startBlock, Cond.selects RX1 yX1_startBlock yX1_startBlock, Cond.code yX1_startBlock cX1_startBlock 2 none, Cond.fieldLink RX1 28 "TreeHashes$Hasher" "block" "[I", Cond.fieldLink RX1 67 "TreeHashes$Hasher" "inBlock" "I", Cond.methodLink RX4 92 yX1_absorb, Cond.instanceMethod yX1_absorb, Cond.selects RX1 yX1_absorb yX1_absorb, Cond.code yX1_absorb cX1_absorb 5 none, Cond.methodLink RX1 70 yX0_byteAt, Cond.instanceMethod yX0_byteAt, Cond.selects RX0 yX0_byteAt yX0_byteAt, Cond.initialized RX0, Cond.code yX0_byteAt cX0_byteAt 2 (some .int)]
def wsX4_root_r3 : List Cond := [Cond.fieldLink RX0 21 "TreeHashes$Bytes" "count" "I", Cond.fieldLink RX0 15 "TreeHashes$Bytes" "row" "[B", Cond.methodLink RX1 76 yX1_absorbByte, Cond.instanceMethod yX1_absorbByte, Cond.selects RX1 yX1_absorbByte yX1_absorbByte, Cond.code yX1_absorbByte cX1_absorbByte 2 none, Cond.methodLink RX1 80 yX1_closeChunk, Cond.instanceMethod yX1_closeChunk, Cond.selects RX1 yX1_closeChunk yX1_closeChunk, Cond.code yX1_closeChunk cX1_closeChunk 2 none, Cond.fieldLink RX1 14 "TreeHashes$Hasher" "mix" "LTreeHashes$Mix;", Cond.fieldLink RX1 22 "TreeHashes$Hasher" "stack" "[I", Cond.methodLink RX1 86 yX1_prepareBlock, Cond.instanceMethod yX1_prepareBlock, Cond.selects RX1 yX1_prepareBlock yX1_prepareBlock, Cond.code yX1_prepareBlock cX1_prepareBlock 3 none, Cond.methodLink RX1 96 yX2_prepare, Cond.instanceMethod yX2_prepare, Cond.selects RX2 yX2_prepare yX2_prepare, Cond.initialized RX2, Cond.code yX2_prepare cX2_prepare 8 none, Cond.fieldLink RX2 9 "TreeHashes$Mix" "chain" "[I", Cond.fieldLink RX2 15 "TreeHashes$Mix" "block" "[I", Cond.fieldLink RX2 27 "TreeHashes$Mix" "count" "J"]
def wsX4_root_r4 : List Cond := [Cond.fieldLink RX2 31 "TreeHashes$Mix" "length" "I", Cond.fieldLink RX2 35 "TreeHashes$Mix" "flags" "I", Cond.methodLink RX1 89 yX2_run, Cond.instanceMethod yX2_run, Cond.selects RX2 yX2_run yX2_run, Cond.code yX2_run cX2_run 2 none, Cond.fieldLink RX2 21 "TreeHashes$Mix" "w" "[I", Cond.fieldLink RX2 18 "TreeHashes$Mix" "v" "[I", Cond.methodLink RX2 66 yX2_fillIn, Cond.instanceMethod yX2_fillIn, Cond.selects RX2 yX2_fillIn yX2_fillIn, Cond.code yX2_fillIn cX2_fillIn 2 none, Cond.fieldLink RX2 76 "TreeHashes$Mix" "START" "[I", Cond.methodLink RX2 69 yX2_turn, Cond.instanceMethod yX2_turn, Cond.selects RX2 yX2_turn yX2_turn, Cond.code yX2_turn cX2_turn 11 none, Cond.methodLink RX2 73 yX2_reorder, Cond.instanceMethod yX2_reorder, Cond.selects RX2 yX2_reorder yX2_reorder, Cond.code yX2_reorder cX2_reorder 2 none, Cond.fieldLink RX2 24 "TreeHashes$Mix" "nextW" "[I", Cond.fieldLink RX2 79 "TreeHashes$Mix" "ORDER" "[I", Cond.methodLink RX1 92 yX2_joinBehind]
def wsX4_root_r5 : List Cond := [Cond.instanceMethod yX2_joinBehind, Cond.selects RX2 yX2_joinBehind yX2_joinBehind, Cond.code yX2_joinBehind cX2_joinBehind 6 none, Cond.methodLink RX2 38 yX2_prepare, Cond.methodLink RX1 100 yX2_writeChain, Cond.instanceMethod yX2_writeChain, Cond.selects RX2 yX2_writeChain yX2_writeChain, Cond.code yX2_writeChain cX2_writeChain 4 none, Cond.methodLink RX1 83 yX1_closeBlock, Cond.instanceMethod yX1_closeBlock, Cond.selects RX1 yX1_closeBlock yX1_closeBlock, Cond.code yX1_closeBlock cX1_closeBlock 1 none, Cond.methodLink RX4 101 yX1_prepareLast, Cond.instanceMethod yX1_prepareLast, Cond.selects RX1 yX1_prepareLast yX1_prepareLast, Cond.code yX1_prepareLast cX1_prepareLast 2 none, Cond.methodLink RX4 108 yX2_writeOutput, Cond.instanceMethod yX2_writeOutput, Cond.selects RX2 yX2_writeOutput yX2_writeOutput, Cond.code yX2_writeOutput cX2_writeOutput 7 none, Cond.constantLong RX2 51 (63), Cond.methodLink RX2 42 yX0_keepFirst, Cond.instanceMethod yX0_keepFirst, Cond.selects RX0 yX0_keepFirst yX0_keepFirst]
def wsX4_root_r6 : List Cond := [Cond.code yX0_keepFirst cX0_keepFirst 3 (some .int), Cond.methodLink RX2 48 yX2_makeRoot, Cond.instanceMethod yX2_makeRoot, Cond.selects RX2 yX2_makeRoot yX2_makeRoot, Cond.code yX2_makeRoot cX2_makeRoot 1 none, Cond.methodLink RX2 53 yX2_run, Cond.methodLink RX2 56 yX2_outputByte, Cond.instanceMethod yX2_outputByte, Cond.selects RX2 yX2_outputByte yX2_outputByte, Cond.code yX2_outputByte cX2_outputByte 2 (some .int), Cond.methodLink RX2 59 yX0_append, Cond.instanceMethod yX0_append, Cond.selects RX0 yX0_append yX0_append, Cond.code yX0_append cX0_append 2 none]
def wsX4_root : List Cond := .code yX4_root cX4_root 2 (some .int) :: ((wsX4_root_r1 ++ (wsX4_root_r2 ++ (wsX4_root_r3 ++ (wsX4_root_r4 ++ (wsX4_root_r5 ++ wsX4_root_r6))))) ++ wsX40 ++ wsX00 ++ wsX10 ++ wsX20)
def wsX4_chunksOf : List Cond := .code yX4_chunksOf cX4_chunksOf 1 (some .int) :: ([])
def wsX4_hasChunk : List Cond := .code yX4_hasChunk cX4_hasChunk 2 (some .boolean) :: ([.methodLink RX4 150 yX4_chunksOf, .static yX4_chunksOf, .initialized RX4, .code yX4_chunksOf cX4_chunksOf 1 (some .int)])
def wsX4_chunkLength : List Cond := .code yX4_chunkLength cX4_chunkLength 2 (some .int) :: ([.methodLink RX4 166 Lib.Math.min.name, .static Lib.Math.min.name, .initialized "java/lang/Math", .code Lib.Math.min.name Lib.Math.min.code 2 (some .int)])
def wsX4_prove_r1 : List Cond := [Cond.fieldLink RX4 24 "TreeHashes" "file" "LTreeHashes$Bytes;", Cond.fieldLink RX4 28 "TreeHashes" "proven" "LTreeHashes$Bytes;", Cond.fieldLink RX4 39 "TreeHashes" "way" "LTreeHashes$Way;", Cond.methodLink RX4 166 Lib.Math.min.name, Cond.static Lib.Math.min.name, Cond.initialized "java/lang/Math", Cond.code Lib.Math.min.name Lib.Math.min.code 2 (some .int), Cond.fieldLink RX4 32 "TreeHashes" "worker" "LTreeHashes$Hasher;", Cond.fieldLink RX4 43 "TreeHashes" "words" "[I", Cond.methodLink RX4 140 yX4_hasChunk, Cond.static yX4_hasChunk, Cond.initialized RX4, Cond.code yX4_hasChunk cX4_hasChunk 2 (some .boolean), Cond.methodLink RX4 150 yX4_chunksOf, Cond.static yX4_chunksOf, Cond.code yX4_chunksOf cX4_chunksOf 1 (some .int), Cond.methodLink RX4 61 yX0_keepFirst, Cond.instanceMethod yX0_keepFirst, Cond.selects RX0 yX0_keepFirst yX0_keepFirst, Cond.initialized RX0, Cond.code yX0_keepFirst cX0_keepFirst 3 (some .int), Cond.fieldLink RX0 21 "TreeHashes$Bytes" "count" "I", Cond.methodLink RX4 144 yX4_chunkLength, Cond.static yX4_chunkLength]
def wsX4_prove_r2 : List Cond := [Cond.code yX4_chunkLength cX4_chunkLength 2 (some .int), Cond.methodLink RX4 147 yX0_appendFrom, Cond.instanceMethod yX0_appendFrom, Cond.selects RX0 yX0_appendFrom yX0_appendFrom, Cond.code yX0_appendFrom cX0_appendFrom 5 none, Cond.methodLink RX0 29 yX0_byteAt, Cond.instanceMethod yX0_byteAt, Cond.selects RX0 yX0_byteAt yX0_byteAt, Cond.code yX0_byteAt cX0_byteAt 2 (some .int), Cond.fieldLink RX0 15 "TreeHashes$Bytes" "row" "[B", Cond.methodLink RX0 25 yX0_append, Cond.instanceMethod yX0_append, Cond.selects RX0 yX0_append yX0_append, Cond.code yX0_append cX0_append 2 none, Cond.methodLink RX4 153 yX3_lead, Cond.instanceMethod yX3_lead, Cond.selects RX3 yX3_lead yX3_lead, Cond.initialized RX3, Cond.code yX3_lead cX3_lead 6 none, Cond.fieldLink RX3 16 "TreeHashes$Way" "levels" "I", Cond.fieldLink RX3 9 "TreeHashes$Way" "otherFirst" "[I", Cond.fieldLink RX3 13 "TreeHashes$Way" "otherChunks" "[I", Cond.methodLink RX3 20 yX3_leftOf, Cond.static yX3_leftOf]
def wsX4_prove_r3 : List Cond := [Cond.code yX3_leftOf cX3_leftOf 3 (some .int), Cond.methodLink RX4 136 yX4_prepareTree, Cond.instanceMethod yX4_prepareTree, Cond.selects RX4 yX4_prepareTree yX4_prepareTree, Cond.code yX4_prepareTree cX4_prepareTree 5 none, Cond.fieldLink RX4 71 "TreeHashes$Mix" "START" "[I", Cond.methodLink RX4 76 yX1_restart, Cond.instanceMethod yX1_restart, Cond.selects RX1 yX1_restart yX1_restart, Cond.initialized RX1, Cond.code yX1_restart cX1_restart 5 none, Cond.fieldLink RX1 18 "TreeHashes$Hasher" "key" "[I", Cond.fieldLink RX1 42 "TreeHashes$Hasher" "mode" "I", Cond.fieldLink RX1 46 "TreeHashes$Hasher" "base" "I", Cond.fieldLink RX1 49 "TreeHashes$Hasher" "firstChunk" "I", Cond.fieldLink RX1 52 "TreeHashes$Hasher" "taken" "I", Cond.fieldLink RX1 55 "TreeHashes$Hasher" "closed" "I", Cond.fieldLink RX1 58 "TreeHashes$Hasher" "depth" "I", Cond.methodLink RX1 38 yX1_copyWords, Cond.static yX1_copyWords, Cond.code yX1_copyWords cX1_copyWords 3 none, Cond.methodLink RX1 61 yX1_startChunk, Cond.instanceMethod yX1_startChunk, Cond.selects RX1 yX1_startChunk yX1_startChunk]
def wsX4_prove_r4 : List Cond := [Cond.code yX1_startChunk cX1_startChunk 1 none, Cond.fieldLink RX1 25 "TreeHashes$Hasher" "chunkChain" "[I", Cond.fieldLink RX1 64 "TreeHashes$Hasher" "blocks" "I", Cond.methodLink RX1 104 yX1_startBlock, Cond.instanceMethod yX1_startBlock, Cond.selects RX1 yX1_startBlock yX1_startBlock, Cond.code yX1_startBlock cX1_startBlock 2 none, Cond.fieldLink RX1 28 "TreeHashes$Hasher" "block" "[I", Cond.fieldLink RX1 67 "TreeHashes$Hasher" "inBlock" "I", Cond.methodLink RX4 92 yX1_absorb, Cond.instanceMethod yX1_absorb, Cond.selects RX1 yX1_absorb yX1_absorb, Cond.code yX1_absorb cX1_absorb 5 none, Cond.methodLink RX1 70 yX0_byteAt, Cond.methodLink RX1 76 yX1_absorbByte, Cond.instanceMethod yX1_absorbByte, Cond.selects RX1 yX1_absorbByte yX1_absorbByte, Cond.code yX1_absorbByte cX1_absorbByte 2 none, Cond.methodLink RX1 80 yX1_closeChunk, Cond.instanceMethod yX1_closeChunk, Cond.selects RX1 yX1_closeChunk yX1_closeChunk, Cond.code yX1_closeChunk cX1_closeChunk 2 none, Cond.fieldLink RX1 14 "TreeHashes$Hasher" "mix" "LTreeHashes$Mix;", Cond.fieldLink RX1 22 "TreeHashes$Hasher" "stack" "[I"]
def wsX4_prove_r5 : List Cond := [Cond.methodLink RX1 86 yX1_prepareBlock, Cond.instanceMethod yX1_prepareBlock, Cond.selects RX1 yX1_prepareBlock yX1_prepareBlock, Cond.code yX1_prepareBlock cX1_prepareBlock 3 none, Cond.methodLink RX1 96 yX2_prepare, Cond.instanceMethod yX2_prepare, Cond.selects RX2 yX2_prepare yX2_prepare, Cond.initialized RX2, Cond.code yX2_prepare cX2_prepare 8 none, Cond.fieldLink RX2 9 "TreeHashes$Mix" "chain" "[I", Cond.fieldLink RX2 15 "TreeHashes$Mix" "block" "[I", Cond.fieldLink RX2 27 "TreeHashes$Mix" "count" "J", Cond.fieldLink RX2 31 "TreeHashes$Mix" "length" "I", Cond.fieldLink RX2 35 "TreeHashes$Mix" "flags" "I", Cond.methodLink RX1 89 yX2_run, Cond.instanceMethod yX2_run, Cond.selects RX2 yX2_run yX2_run, Cond.code yX2_run cX2_run 2 none, Cond.fieldLink RX2 21 "TreeHashes$Mix" "w" "[I", Cond.fieldLink RX2 18 "TreeHashes$Mix" "v" "[I", Cond.methodLink RX2 66 yX2_fillIn, Cond.instanceMethod yX2_fillIn, Cond.selects RX2 yX2_fillIn yX2_fillIn, Cond.code yX2_fillIn cX2_fillIn 2 none]
def wsX4_prove_r6 : List Cond := [Cond.fieldLink RX2 76 "TreeHashes$Mix" "START" "[I", Cond.methodLink RX2 69 yX2_turn, Cond.instanceMethod yX2_turn, Cond.selects RX2 yX2_turn yX2_turn, Cond.code yX2_turn cX2_turn 11 none, Cond.methodLink RX2 73 yX2_reorder, Cond.instanceMethod yX2_reorder, Cond.selects RX2 yX2_reorder yX2_reorder, Cond.code yX2_reorder cX2_reorder 2 none, Cond.fieldLink RX2 24 "TreeHashes$Mix" "nextW" "[I", Cond.fieldLink RX2 79 "TreeHashes$Mix" "ORDER" "[I", Cond.methodLink RX1 92 yX2_joinBehind, Cond.instanceMethod yX2_joinBehind, Cond.selects RX2 yX2_joinBehind yX2_joinBehind, Cond.code yX2_joinBehind cX2_joinBehind 6 none, Cond.methodLink RX2 38 yX2_prepare, Cond.methodLink RX1 100 yX2_writeChain, Cond.instanceMethod yX2_writeChain, Cond.selects RX2 yX2_writeChain yX2_writeChain, Cond.code yX2_writeChain cX2_writeChain 4 none, Cond.methodLink RX1 83 yX1_closeBlock, Cond.instanceMethod yX1_closeBlock, Cond.selects RX1 yX1_closeBlock yX1_closeBlock, Cond.code yX1_closeBlock cX1_closeBlock 1 none]
def wsX4_prove_r7 : List Cond := [Cond.methodLink RX4 101 yX1_prepareLast, Cond.instanceMethod yX1_prepareLast, Cond.selects RX1 yX1_prepareLast yX1_prepareLast, Cond.code yX1_prepareLast cX1_prepareLast 2 none, Cond.methodLink RX4 171 yX2_run, Cond.methodLink RX4 174 yX2_writeChain, Cond.methodLink RX4 178 yX0_appendChain, Cond.instanceMethod yX0_appendChain, Cond.selects RX0 yX0_appendChain yX0_appendChain, Cond.code yX0_appendChain cX0_appendChain 3 none]
def wsX4_prove : List Cond := .code yX4_prove cX4_prove 5 (some .int) :: ((wsX4_prove_r1 ++ (wsX4_prove_r2 ++ (wsX4_prove_r3 ++ (wsX4_prove_r4 ++ (wsX4_prove_r5 ++ (wsX4_prove_r6 ++ wsX4_prove_r7)))))) ++ wsX40 ++ wsX00 ++ wsX30 ++ wsX10 ++ wsX20)
def wsX4_proof : List Cond := .code yX4_proof cX4_proof 2 (some .int) :: ([.fieldLink RX4 28 "TreeHashes" "proven" "LTreeHashes$Bytes;", .methodLink RX4 65 yX0_byteAt, .instanceMethod yX0_byteAt, .selects RX0 yX0_byteAt yX0_byteAt, .initialized RX0, .code yX0_byteAt cX0_byteAt 2 (some .int), .fieldLink RX0 21 "TreeHashes$Bytes" "count" "I", .fieldLink RX0 15 "TreeHashes$Bytes" "row" "[B"] ++ wsX40 ++ wsX00)
def wsX4_forge : List Cond := .code yX4_forge cX4_forge 3 (some .int) :: ([.fieldLink RX4 28 "TreeHashes" "proven" "LTreeHashes$Bytes;", .methodLink RX4 133 yX0_change, .instanceMethod yX0_change, .selects RX0 yX0_change yX0_change, .initialized RX0, .code yX0_change cX0_change 3 (some .int), .fieldLink RX0 21 "TreeHashes$Bytes" "count" "I", .fieldLink RX0 15 "TreeHashes$Bytes" "row" "[B"] ++ wsX40 ++ wsX00)
def wsX4_cut : List Cond := .code yX4_cut cX4_cut 2 (some .int) :: ([.fieldLink RX4 28 "TreeHashes" "proven" "LTreeHashes$Bytes;", .methodLink RX4 61 yX0_keepFirst, .instanceMethod yX0_keepFirst, .selects RX0 yX0_keepFirst yX0_keepFirst, .initialized RX0, .code yX0_keepFirst cX0_keepFirst 3 (some .int), .fieldLink RX0 21 "TreeHashes$Bytes" "count" "I"] ++ wsX40 ++ wsX00)
def wsX4_climb_r1 : List Cond := [Cond.fieldLink RX4 39 "TreeHashes" "way" "LTreeHashes$Way;", Cond.fieldLink RX4 28 "TreeHashes" "proven" "LTreeHashes$Bytes;", Cond.fieldLink RX4 43 "TreeHashes" "words" "[I", Cond.fieldLink RX4 32 "TreeHashes" "worker" "LTreeHashes$Hasher;", Cond.fieldLink RX4 71 "TreeHashes$Mix" "START" "[I", Cond.methodLink RX4 80 yX0_readChain, Cond.instanceMethod yX0_readChain, Cond.selects RX0 yX0_readChain yX0_readChain, Cond.initialized RX0, Cond.code yX0_readChain cX0_readChain 4 none, Cond.methodLink RX0 33 yX0_wordAt, Cond.instanceMethod yX0_wordAt, Cond.selects RX0 yX0_wordAt yX0_wordAt, Cond.code yX0_wordAt cX0_wordAt 2 (some .int), Cond.methodLink RX0 29 yX0_byteAt, Cond.instanceMethod yX0_byteAt, Cond.selects RX0 yX0_byteAt yX0_byteAt, Cond.code yX0_byteAt cX0_byteAt 2 (some .int), Cond.fieldLink RX0 21 "TreeHashes$Bytes" "count" "I", Cond.fieldLink RX0 15 "TreeHashes$Bytes" "row" "[B", Cond.methodLink RX4 171 yX2_run, Cond.instanceMethod yX2_run, Cond.selects RX2 yX2_run yX2_run, Cond.initialized RX2]
def wsX4_climb_r2 : List Cond := [Cond.code yX2_run cX2_run 2 none, Cond.fieldLink RX2 21 "TreeHashes$Mix" "w" "[I", Cond.fieldLink RX2 18 "TreeHashes$Mix" "v" "[I", Cond.fieldLink RX2 9 "TreeHashes$Mix" "chain" "[I", Cond.methodLink RX2 66 yX2_fillIn, Cond.instanceMethod yX2_fillIn, Cond.selects RX2 yX2_fillIn yX2_fillIn, Cond.code yX2_fillIn cX2_fillIn 2 none, Cond.fieldLink RX2 76 "TreeHashes$Mix" "START" "[I", Cond.fieldLink RX2 27 "TreeHashes$Mix" "count" "J", Cond.fieldLink RX2 31 "TreeHashes$Mix" "length" "I", Cond.fieldLink RX2 35 "TreeHashes$Mix" "flags" "I", Cond.fieldLink RX2 15 "TreeHashes$Mix" "block" "[I", Cond.methodLink RX2 69 yX2_turn, Cond.instanceMethod yX2_turn, Cond.selects RX2 yX2_turn yX2_turn, Cond.code yX2_turn cX2_turn 11 none, Cond.methodLink RX2 73 yX2_reorder, Cond.instanceMethod yX2_reorder, Cond.selects RX2 yX2_reorder yX2_reorder, Cond.code yX2_reorder cX2_reorder 2 none, Cond.fieldLink RX2 24 "TreeHashes$Mix" "nextW" "[I", Cond.fieldLink RX2 79 "TreeHashes$Mix" "ORDER" "[I", Cond.methodLink RX4 193 yX2_joinBehind]
def wsX4_climb_r3 : List Cond := [Cond.instanceMethod yX2_joinBehind, Cond.selects RX2 yX2_joinBehind yX2_joinBehind, Cond.code yX2_joinBehind cX2_joinBehind 6 none, Cond.methodLink RX2 38 yX2_prepare, Cond.instanceMethod yX2_prepare, Cond.selects RX2 yX2_prepare yX2_prepare, Cond.code yX2_prepare cX2_prepare 8 none, Cond.methodLink RX4 197 yX2_joinBefore, Cond.instanceMethod yX2_joinBefore, Cond.selects RX2 yX2_joinBefore yX2_joinBefore, Cond.code yX2_joinBefore cX2_joinBefore 6 none]
def wsX4_climb : List Cond := .code yX4_climb cX4_climb 4 none :: ((wsX4_climb_r1 ++ (wsX4_climb_r2 ++ wsX4_climb_r3)) ++ wsX40 ++ wsX30 ++ wsX10 ++ wsX00 ++ wsX20)
def wsX4_check_r1 : List Cond := [Cond.fieldLink RX4 11 "TreeHashes" "registers" "[LTreeHashes$Bytes;", Cond.constant RX4 182 (1000000), Cond.fieldLink RX4 39 "TreeHashes" "way" "LTreeHashes$Way;", Cond.fieldLink RX4 28 "TreeHashes" "proven" "LTreeHashes$Bytes;", Cond.fieldLink RX4 32 "TreeHashes" "worker" "LTreeHashes$Hasher;", Cond.methodLink RX4 47 yX4_isRegister, Cond.static yX4_isRegister, Cond.initialized RX4, Cond.code yX4_isRegister cX4_isRegister 1 (some .boolean), Cond.methodLink RX4 140 yX4_hasChunk, Cond.static yX4_hasChunk, Cond.code yX4_hasChunk cX4_hasChunk 2 (some .boolean), Cond.methodLink RX4 150 yX4_chunksOf, Cond.static yX4_chunksOf, Cond.code yX4_chunksOf cX4_chunksOf 1 (some .int), Cond.methodLink RX4 153 yX3_lead, Cond.instanceMethod yX3_lead, Cond.selects RX3 yX3_lead yX3_lead, Cond.initialized RX3, Cond.code yX3_lead cX3_lead 6 none, Cond.fieldLink RX3 16 "TreeHashes$Way" "levels" "I", Cond.fieldLink RX3 9 "TreeHashes$Way" "otherFirst" "[I", Cond.fieldLink RX3 13 "TreeHashes$Way" "otherChunks" "[I", Cond.methodLink RX3 20 yX3_leftOf]
def wsX4_check_r2 : List Cond := [Cond.static yX3_leftOf, Cond.code yX3_leftOf cX3_leftOf 3 (some .int), Cond.methodLink RX4 144 yX4_chunkLength, Cond.static yX4_chunkLength, Cond.code yX4_chunkLength cX4_chunkLength 2 (some .int), Cond.methodLink RX4 166 Lib.Math.min.name, Cond.static Lib.Math.min.name, Cond.initialized "java/lang/Math", Cond.code Lib.Math.min.name Lib.Math.min.code 2 (some .int), Cond.methodLink RX4 136 yX4_prepareTree, Cond.instanceMethod yX4_prepareTree, Cond.selects RX4 yX4_prepareTree yX4_prepareTree, Cond.code yX4_prepareTree cX4_prepareTree 5 none, Cond.fieldLink RX4 71 "TreeHashes$Mix" "START" "[I", Cond.methodLink RX4 76 yX1_restart, Cond.instanceMethod yX1_restart, Cond.selects RX1 yX1_restart yX1_restart, Cond.initialized RX1, Cond.code yX1_restart cX1_restart 5 none, Cond.fieldLink RX1 18 "TreeHashes$Hasher" "key" "[I", Cond.fieldLink RX1 42 "TreeHashes$Hasher" "mode" "I", Cond.fieldLink RX1 46 "TreeHashes$Hasher" "base" "I", Cond.fieldLink RX1 49 "TreeHashes$Hasher" "firstChunk" "I", Cond.fieldLink RX1 52 "TreeHashes$Hasher" "taken" "I"]
def wsX4_check_r3 : List Cond := [Cond.fieldLink RX1 55 "TreeHashes$Hasher" "closed" "I", Cond.fieldLink RX1 58 "TreeHashes$Hasher" "depth" "I", Cond.methodLink RX1 38 yX1_copyWords, Cond.static yX1_copyWords, Cond.code yX1_copyWords cX1_copyWords 3 none, Cond.methodLink RX1 61 yX1_startChunk, Cond.instanceMethod yX1_startChunk, Cond.selects RX1 yX1_startChunk yX1_startChunk, Cond.code yX1_startChunk cX1_startChunk 1 none, Cond.fieldLink RX1 25 "TreeHashes$Hasher" "chunkChain" "[I", Cond.fieldLink RX1 64 "TreeHashes$Hasher" "blocks" "I", Cond.methodLink RX1 104 yX1_startBlock, Cond.instanceMethod yX1_startBlock, Cond.selects RX1 yX1_startBlock yX1_startBlock, Cond.code yX1_startBlock cX1_startBlock 2 none, Cond.fieldLink RX1 28 "TreeHashes$Hasher" "block" "[I", Cond.fieldLink RX1 67 "TreeHashes$Hasher" "inBlock" "I", Cond.methodLink RX4 92 yX1_absorb, Cond.instanceMethod yX1_absorb, Cond.selects RX1 yX1_absorb yX1_absorb, Cond.code yX1_absorb cX1_absorb 5 none, Cond.methodLink RX1 70 yX0_byteAt, Cond.instanceMethod yX0_byteAt, Cond.selects RX0 yX0_byteAt yX0_byteAt]
def wsX4_check_r4 : List Cond := [Cond.initialized RX0, Cond.code yX0_byteAt cX0_byteAt 2 (some .int), Cond.fieldLink RX0 21 "TreeHashes$Bytes" "count" "I", Cond.fieldLink RX0 15 "TreeHashes$Bytes" "row" "[B", Cond.methodLink RX1 76 yX1_absorbByte, Cond.instanceMethod yX1_absorbByte, Cond.selects RX1 yX1_absorbByte yX1_absorbByte, Cond.code yX1_absorbByte cX1_absorbByte 2 none, Cond.methodLink RX1 80 yX1_closeChunk, Cond.instanceMethod yX1_closeChunk, Cond.selects RX1 yX1_closeChunk yX1_closeChunk, Cond.code yX1_closeChunk cX1_closeChunk 2 none, Cond.fieldLink RX1 14 "TreeHashes$Hasher" "mix" "LTreeHashes$Mix;", Cond.fieldLink RX1 22 "TreeHashes$Hasher" "stack" "[I", Cond.methodLink RX1 86 yX1_prepareBlock, Cond.instanceMethod yX1_prepareBlock, Cond.selects RX1 yX1_prepareBlock yX1_prepareBlock, Cond.code yX1_prepareBlock cX1_prepareBlock 3 none, Cond.methodLink RX1 96 yX2_prepare, Cond.instanceMethod yX2_prepare, Cond.selects RX2 yX2_prepare yX2_prepare, Cond.initialized RX2, Cond.code yX2_prepare cX2_prepare 8 none, Cond.fieldLink RX2 9 "TreeHashes$Mix" "chain" "[I"]
def wsX4_check_r5 : List Cond := [Cond.fieldLink RX2 15 "TreeHashes$Mix" "block" "[I", Cond.fieldLink RX2 27 "TreeHashes$Mix" "count" "J", Cond.fieldLink RX2 31 "TreeHashes$Mix" "length" "I", Cond.fieldLink RX2 35 "TreeHashes$Mix" "flags" "I", Cond.methodLink RX1 89 yX2_run, Cond.instanceMethod yX2_run, Cond.selects RX2 yX2_run yX2_run, Cond.code yX2_run cX2_run 2 none, Cond.fieldLink RX2 21 "TreeHashes$Mix" "w" "[I", Cond.fieldLink RX2 18 "TreeHashes$Mix" "v" "[I", Cond.methodLink RX2 66 yX2_fillIn, Cond.instanceMethod yX2_fillIn, Cond.selects RX2 yX2_fillIn yX2_fillIn, Cond.code yX2_fillIn cX2_fillIn 2 none, Cond.fieldLink RX2 76 "TreeHashes$Mix" "START" "[I", Cond.methodLink RX2 69 yX2_turn, Cond.instanceMethod yX2_turn, Cond.selects RX2 yX2_turn yX2_turn, Cond.code yX2_turn cX2_turn 11 none, Cond.methodLink RX2 73 yX2_reorder, Cond.instanceMethod yX2_reorder, Cond.selects RX2 yX2_reorder yX2_reorder, Cond.code yX2_reorder cX2_reorder 2 none, Cond.fieldLink RX2 24 "TreeHashes$Mix" "nextW" "[I"]
def wsX4_check_r6 : List Cond := [Cond.fieldLink RX2 79 "TreeHashes$Mix" "ORDER" "[I", Cond.methodLink RX1 92 yX2_joinBehind, Cond.instanceMethod yX2_joinBehind, Cond.selects RX2 yX2_joinBehind yX2_joinBehind, Cond.code yX2_joinBehind cX2_joinBehind 6 none, Cond.methodLink RX2 38 yX2_prepare, Cond.methodLink RX1 100 yX2_writeChain, Cond.instanceMethod yX2_writeChain, Cond.selects RX2 yX2_writeChain yX2_writeChain, Cond.code yX2_writeChain cX2_writeChain 4 none, Cond.methodLink RX1 83 yX1_closeBlock, Cond.instanceMethod yX1_closeBlock, Cond.selects RX1 yX1_closeBlock yX1_closeBlock, Cond.code yX1_closeBlock cX1_closeBlock 1 none, Cond.methodLink RX4 101 yX1_prepareLast, Cond.instanceMethod yX1_prepareLast, Cond.selects RX1 yX1_prepareLast yX1_prepareLast, Cond.code yX1_prepareLast cX1_prepareLast 2 none, Cond.methodLink RX4 183 yX4_climb, Cond.instanceMethod yX4_climb, Cond.selects RX4 yX4_climb yX4_climb, Cond.code yX4_climb cX4_climb 4 none, Cond.fieldLink RX4 43 "TreeHashes" "words" "[I", Cond.methodLink RX4 80 yX0_readChain]
def wsX4_check_r7 : List Cond := [Cond.instanceMethod yX0_readChain, Cond.selects RX0 yX0_readChain yX0_readChain, Cond.code yX0_readChain cX0_readChain 4 none, Cond.methodLink RX0 33 yX0_wordAt, Cond.instanceMethod yX0_wordAt, Cond.selects RX0 yX0_wordAt yX0_wordAt, Cond.code yX0_wordAt cX0_wordAt 2 (some .int), Cond.methodLink RX0 29 yX0_byteAt, Cond.methodLink RX4 171 yX2_run, Cond.methodLink RX4 193 yX2_joinBehind, Cond.methodLink RX4 197 yX2_joinBefore, Cond.instanceMethod yX2_joinBefore, Cond.selects RX2 yX2_joinBefore yX2_joinBefore, Cond.code yX2_joinBefore cX2_joinBefore 6 none, Cond.methodLink RX4 186 yX2_rootBeginsWith, Cond.instanceMethod yX2_rootBeginsWith, Cond.selects RX2 yX2_rootBeginsWith yX2_rootBeginsWith, Cond.code yX2_rootBeginsWith cX2_rootBeginsWith 3 (some .boolean), Cond.methodLink RX2 48 yX2_makeRoot, Cond.instanceMethod yX2_makeRoot, Cond.selects RX2 yX2_makeRoot yX2_makeRoot, Cond.code yX2_makeRoot cX2_makeRoot 1 none, Cond.methodLink RX2 53 yX2_run, Cond.methodLink RX2 56 yX2_outputByte]
def wsX4_check_r8 : List Cond := [Cond.instanceMethod yX2_outputByte, Cond.selects RX2 yX2_outputByte yX2_outputByte, Cond.code yX2_outputByte cX2_outputByte 2 (some .int), Cond.methodLink RX2 63 yX0_byteAt]
def wsX4_check : List Cond := .code yX4_check cX4_check 5 (some .int) :: ((wsX4_check_r1 ++ (wsX4_check_r2 ++ (wsX4_check_r3 ++ (wsX4_check_r4 ++ (wsX4_check_r5 ++ (wsX4_check_r6 ++ (wsX4_check_r7 ++ wsX4_check_r8))))))) ++ wsX40 ++ wsX00 ++ wsX30 ++ wsX10 ++ wsX20)
def wsX5_plain : List Cond := .code yX5_plain cX5_plain 3 none :: ([.fieldLink RX5 26 "TreeHashesModel" "keys" "[I", .fieldLink RX5 41 "TreeHashesModel" "start" "[I"] ++ wsX50)
def wsX5_init_r1 : List Cond := [Cond.methodLink RX5 1 objectInit, Cond.instanceMethod objectInit, Cond.code objectInit ⟨#[0xb1]⟩ 1 none, Cond.arrayClass .int, Cond.fieldLink RX5 7 "TreeHashesModel" "registers" "[I", Cond.fieldLink RX5 13 "TreeHashesModel" "sizes" "[I", Cond.constant RX5 16 (160000), Cond.fieldLink RX5 17 "TreeHashesModel" "taken" "[I", Cond.fieldLink RX5 20 "TreeHashesModel" "count" "[I", Cond.fieldLink RX5 23 "TreeHashesModel" "mode" "[I", Cond.fieldLink RX5 26 "TreeHashesModel" "keys" "[I", Cond.fieldLink RX5 29 "TreeHashesModel" "chains" "[I", Cond.fieldLink RX5 32 "TreeHashesModel" "made" "[I", Cond.fieldLink RX5 35 "TreeHashesModel" "file" "[I", Cond.fieldLink RX5 38 "TreeHashesModel" "proof" "[I", Cond.fieldLink RX5 41 "TreeHashesModel" "start" "[I", Cond.fieldLink RX5 44 "TreeHashesModel" "key" "[I", Cond.fieldLink RX5 47 "TreeHashesModel" "chain" "[I", Cond.fieldLink RX5 50 "TreeHashesModel" "block" "[I", Cond.fieldLink RX5 53 "TreeHashesModel" "v" "[I", Cond.fieldLink RX5 56 "TreeHashesModel" "w" "[I", Cond.fieldLink RX5 59 "TreeHashesModel" "old" "[I", Cond.fieldLink RX5 62 "TreeHashesModel" "order" "[I", Cond.fieldLink RX5 65 "TreeHashesModel" "pile" "[I"]
def wsX5_init_r2 : List Cond := [Cond.arrayClass .boolean, Cond.fieldLink RX5 68 "TreeHashesModel" "isLeft" "[Z", Cond.constant RX5 72 (1779033703), Cond.constant RX5 73 (-1150833019), Cond.constant RX5 74 (1013904242), Cond.constant RX5 75 (-1521486534), Cond.constant RX5 76 (1359893119), Cond.constant RX5 77 (-1694144372), Cond.constant RX5 78 (528734635), Cond.constant RX5 79 (1541459225), Cond.constantLong RX5 80 (-8076822537876036766), Cond.constantLong RX5 82 (15), Cond.methodLink RX5 84 yX5_plain, Cond.instanceMethod yX5_plain, Cond.selects RX5 yX5_plain yX5_plain, Cond.initialized RX5, Cond.code yX5_plain cX5_plain 3 none]
def wsX5_init : List Cond := .code yX5_init cX5_init 4 none :: ((wsX5_init_r1 ++ wsX5_init_r2) ++ wsX50)
def wsX5_in : List Cond := .code yX5_in cX5_in 6 (some .boolean) :: ([])
def wsX5_turned : List Cond := .code yX5_turned cX5_turned 2 (some .int) :: ([])
def wsX5_turn : List Cond := .code yX5_turn cX5_turn 6 none :: ([.fieldLink RX5 53 "TreeHashesModel" "v" "[I", .fieldLink RX5 56 "TreeHashesModel" "w" "[I", .methodLink RX5 88 yX5_turned, .static yX5_turned, .initialized RX5, .code yX5_turned cX5_turned 2 (some .int)] ++ wsX50)
def wsX5_mix : List Cond := .code yX5_mix cX5_mix 6 none :: ([.fieldLink RX5 53 "TreeHashesModel" "v" "[I", .fieldLink RX5 47 "TreeHashesModel" "chain" "[I", .fieldLink RX5 41 "TreeHashesModel" "start" "[I", .fieldLink RX5 92 "TreeHashesModel" "blockLength" "I", .fieldLink RX5 56 "TreeHashesModel" "w" "[I", .fieldLink RX5 50 "TreeHashesModel" "block" "[I", .fieldLink RX5 59 "TreeHashesModel" "old" "[I", .fieldLink RX5 62 "TreeHashesModel" "order" "[I", .methodLink RX5 96 yX5_turn, .instanceMethod yX5_turn, .selects RX5 yX5_turn yX5_turn, .initialized RX5, .code yX5_turn cX5_turn 6 none, .methodLink RX5 88 yX5_turned, .static yX5_turned, .code yX5_turned cX5_turned 2 (some .int)] ++ wsX50)
def wsX5_mixIn : List Cond := .code yX5_mixIn cX5_mixIn 2 none :: ([.fieldLink RX5 100 "TreeHashesModel" "number" "J", .fieldLink RX5 104 "TreeHashesModel" "flags" "I", .fieldLink RX5 47 "TreeHashesModel" "chain" "[I", .fieldLink RX5 53 "TreeHashesModel" "v" "[I", .methodLink RX5 107 yX5_mix, .instanceMethod yX5_mix, .selects RX5 yX5_mix yX5_mix, .initialized RX5, .code yX5_mix cX5_mix 6 none, .fieldLink RX5 41 "TreeHashesModel" "start" "[I", .fieldLink RX5 92 "TreeHashesModel" "blockLength" "I", .fieldLink RX5 56 "TreeHashesModel" "w" "[I", .fieldLink RX5 50 "TreeHashesModel" "block" "[I", .fieldLink RX5 59 "TreeHashesModel" "old" "[I", .fieldLink RX5 62 "TreeHashesModel" "order" "[I", .methodLink RX5 96 yX5_turn, .instanceMethod yX5_turn, .selects RX5 yX5_turn yX5_turn, .code yX5_turn cX5_turn 6 none, .methodLink RX5 88 yX5_turned, .static yX5_turned, .code yX5_turned cX5_turned 2 (some .int)] ++ wsX50)
def wsX5_chunk_r1 : List Cond := [Cond.fieldLink RX5 47 "TreeHashesModel" "chain" "[I", Cond.fieldLink RX5 44 "TreeHashesModel" "key" "[I", Cond.fieldLink RX5 100 "TreeHashesModel" "number" "J", Cond.fieldLink RX5 92 "TreeHashesModel" "blockLength" "I", Cond.fieldLink RX5 50 "TreeHashesModel" "block" "[I", Cond.fieldLink RX5 114 "TreeHashesModel" "base" "I", Cond.fieldLink RX5 104 "TreeHashesModel" "flags" "I", Cond.methodLink RX5 111 yX5_mixIn, Cond.instanceMethod yX5_mixIn, Cond.selects RX5 yX5_mixIn yX5_mixIn, Cond.initialized RX5, Cond.code yX5_mixIn cX5_mixIn 2 none, Cond.fieldLink RX5 53 "TreeHashesModel" "v" "[I", Cond.methodLink RX5 107 yX5_mix, Cond.instanceMethod yX5_mix, Cond.selects RX5 yX5_mix yX5_mix, Cond.code yX5_mix cX5_mix 6 none, Cond.fieldLink RX5 41 "TreeHashesModel" "start" "[I", Cond.fieldLink RX5 56 "TreeHashesModel" "w" "[I", Cond.fieldLink RX5 59 "TreeHashesModel" "old" "[I", Cond.fieldLink RX5 62 "TreeHashesModel" "order" "[I", Cond.methodLink RX5 96 yX5_turn, Cond.instanceMethod yX5_turn, Cond.selects RX5 yX5_turn yX5_turn]
def wsX5_chunk_r2 : List Cond := [Cond.code yX5_turn cX5_turn 6 none, Cond.methodLink RX5 88 yX5_turned, Cond.static yX5_turned, Cond.code yX5_turned cX5_turned 2 (some .int)]
def wsX5_chunk : List Cond := .code yX5_chunk cX5_chunk 9 none :: ((wsX5_chunk_r1 ++ wsX5_chunk_r2) ++ wsX50)
def wsX5_parent : List Cond := .code yX5_parent cX5_parent 2 none :: ([.fieldLink RX5 117 "TreeHashesModel" "high" "I", .fieldLink RX5 50 "TreeHashesModel" "block" "[I", .fieldLink RX5 65 "TreeHashesModel" "pile" "[I", .fieldLink RX5 47 "TreeHashesModel" "chain" "[I", .fieldLink RX5 44 "TreeHashesModel" "key" "[I", .fieldLink RX5 100 "TreeHashesModel" "number" "J", .fieldLink RX5 92 "TreeHashesModel" "blockLength" "I", .fieldLink RX5 114 "TreeHashesModel" "base" "I", .fieldLink RX5 104 "TreeHashesModel" "flags" "I"] ++ wsX50)
def wsX5_close_r1 : List Cond := [Cond.fieldLink RX5 120 "TreeHashesModel" "closed" "I", Cond.fieldLink RX5 65 "TreeHashesModel" "pile" "[I", Cond.fieldLink RX5 117 "TreeHashesModel" "high" "I", Cond.fieldLink RX5 47 "TreeHashesModel" "chain" "[I", Cond.methodLink RX5 123 yX5_parent, Cond.instanceMethod yX5_parent, Cond.selects RX5 yX5_parent yX5_parent, Cond.initialized RX5, Cond.code yX5_parent cX5_parent 2 none, Cond.fieldLink RX5 50 "TreeHashesModel" "block" "[I", Cond.fieldLink RX5 44 "TreeHashesModel" "key" "[I", Cond.fieldLink RX5 100 "TreeHashesModel" "number" "J", Cond.fieldLink RX5 92 "TreeHashesModel" "blockLength" "I", Cond.fieldLink RX5 114 "TreeHashesModel" "base" "I", Cond.fieldLink RX5 104 "TreeHashesModel" "flags" "I", Cond.methodLink RX5 111 yX5_mixIn, Cond.instanceMethod yX5_mixIn, Cond.selects RX5 yX5_mixIn yX5_mixIn, Cond.code yX5_mixIn cX5_mixIn 2 none, Cond.fieldLink RX5 53 "TreeHashesModel" "v" "[I", Cond.methodLink RX5 107 yX5_mix, Cond.instanceMethod yX5_mix, Cond.selects RX5 yX5_mix yX5_mix, Cond.code yX5_mix cX5_mix 6 none]
def wsX5_close_r2 : List Cond := [Cond.fieldLink RX5 41 "TreeHashesModel" "start" "[I", Cond.fieldLink RX5 56 "TreeHashesModel" "w" "[I", Cond.fieldLink RX5 59 "TreeHashesModel" "old" "[I", Cond.fieldLink RX5 62 "TreeHashesModel" "order" "[I", Cond.methodLink RX5 96 yX5_turn, Cond.instanceMethod yX5_turn, Cond.selects RX5 yX5_turn yX5_turn, Cond.code yX5_turn cX5_turn 6 none, Cond.methodLink RX5 88 yX5_turned, Cond.static yX5_turned, Cond.code yX5_turned cX5_turned 2 (some .int)]
def wsX5_close : List Cond := .code yX5_close cX5_close 2 none :: ((wsX5_close_r1 ++ wsX5_close_r2) ++ wsX50)
def wsX5_beginPile : List Cond := .code yX5_beginPile cX5_beginPile 1 none :: ([.fieldLink RX5 117 "TreeHashesModel" "high" "I", .fieldLink RX5 120 "TreeHashesModel" "closed" "I"] ++ wsX50)
def wsX5_chunksOf : List Cond := .code yX5_chunksOf cX5_chunksOf 1 (some .int) :: ([])
def wsX5_chunkSize : List Cond := .code yX5_chunkSize cX5_chunkSize 2 (some .int) :: ([])
def wsX5_tree_r1 : List Cond := [Cond.fieldLink RX5 117 "TreeHashesModel" "high" "I", Cond.methodLink RX5 126 yX5_beginPile, Cond.instanceMethod yX5_beginPile, Cond.selects RX5 yX5_beginPile yX5_beginPile, Cond.initialized RX5, Cond.code yX5_beginPile cX5_beginPile 1 none, Cond.fieldLink RX5 120 "TreeHashesModel" "closed" "I", Cond.methodLink RX5 129 yX5_chunkSize, Cond.static yX5_chunkSize, Cond.code yX5_chunkSize cX5_chunkSize 2 (some .int), Cond.methodLink RX5 132 yX5_chunk, Cond.instanceMethod yX5_chunk, Cond.selects RX5 yX5_chunk yX5_chunk, Cond.code yX5_chunk cX5_chunk 9 none, Cond.fieldLink RX5 47 "TreeHashesModel" "chain" "[I", Cond.fieldLink RX5 44 "TreeHashesModel" "key" "[I", Cond.fieldLink RX5 100 "TreeHashesModel" "number" "J", Cond.fieldLink RX5 92 "TreeHashesModel" "blockLength" "I", Cond.fieldLink RX5 50 "TreeHashesModel" "block" "[I", Cond.fieldLink RX5 114 "TreeHashesModel" "base" "I", Cond.fieldLink RX5 104 "TreeHashesModel" "flags" "I", Cond.methodLink RX5 111 yX5_mixIn, Cond.instanceMethod yX5_mixIn, Cond.selects RX5 yX5_mixIn yX5_mixIn]
def wsX5_tree_r2 : List Cond := [Cond.code yX5_mixIn cX5_mixIn 2 none, Cond.fieldLink RX5 53 "TreeHashesModel" "v" "[I", Cond.methodLink RX5 107 yX5_mix, Cond.instanceMethod yX5_mix, Cond.selects RX5 yX5_mix yX5_mix, Cond.code yX5_mix cX5_mix 6 none, Cond.fieldLink RX5 41 "TreeHashesModel" "start" "[I", Cond.fieldLink RX5 56 "TreeHashesModel" "w" "[I", Cond.fieldLink RX5 59 "TreeHashesModel" "old" "[I", Cond.fieldLink RX5 62 "TreeHashesModel" "order" "[I", Cond.methodLink RX5 96 yX5_turn, Cond.instanceMethod yX5_turn, Cond.selects RX5 yX5_turn yX5_turn, Cond.code yX5_turn cX5_turn 6 none, Cond.methodLink RX5 88 yX5_turned, Cond.static yX5_turned, Cond.code yX5_turned cX5_turned 2 (some .int), Cond.methodLink RX5 136 yX5_close, Cond.instanceMethod yX5_close, Cond.selects RX5 yX5_close yX5_close, Cond.code yX5_close cX5_close 2 none, Cond.fieldLink RX5 65 "TreeHashesModel" "pile" "[I", Cond.methodLink RX5 123 yX5_parent, Cond.instanceMethod yX5_parent]
def wsX5_tree_r3 : List Cond := [Cond.selects RX5 yX5_parent yX5_parent, Cond.code yX5_parent cX5_parent 2 none]
def wsX5_tree : List Cond := .code yX5_tree cX5_tree 7 none :: ((wsX5_tree_r1 ++ (wsX5_tree_r2 ++ wsX5_tree_r3)) ++ wsX50)
def wsX5_useKey : List Cond := .code yX5_useKey cX5_useKey 3 none :: ([.fieldLink RX5 44 "TreeHashesModel" "key" "[I", .fieldLink RX5 41 "TreeHashesModel" "start" "[I", .fieldLink RX5 26 "TreeHashesModel" "keys" "[I", .fieldLink RX5 23 "TreeHashesModel" "mode" "[I", .fieldLink RX5 114 "TreeHashesModel" "base" "I"] ++ wsX50)
def wsX5_closedOf : List Cond := .code yX5_closedOf cX5_closedOf 2 (some .int) :: ([.fieldLink RX5 20 "TreeHashesModel" "count" "[I"] ++ wsX50)
def wsX5_pileOf_r1 : List Cond := [Cond.fieldLink RX5 32 "TreeHashesModel" "made" "[I", Cond.fieldLink RX5 17 "TreeHashesModel" "taken" "[I", Cond.constant RX5 146 (40000), Cond.fieldLink RX5 29 "TreeHashesModel" "chains" "[I", Cond.fieldLink RX5 47 "TreeHashesModel" "chain" "[I", Cond.methodLink RX5 139 yX5_useKey, Cond.instanceMethod yX5_useKey, Cond.selects RX5 yX5_useKey yX5_useKey, Cond.initialized RX5, Cond.code yX5_useKey cX5_useKey 3 none, Cond.fieldLink RX5 44 "TreeHashesModel" "key" "[I", Cond.fieldLink RX5 41 "TreeHashesModel" "start" "[I", Cond.fieldLink RX5 26 "TreeHashesModel" "keys" "[I", Cond.fieldLink RX5 23 "TreeHashesModel" "mode" "[I", Cond.fieldLink RX5 114 "TreeHashesModel" "base" "I", Cond.methodLink RX5 142 yX5_closedOf, Cond.instanceMethod yX5_closedOf, Cond.selects RX5 yX5_closedOf yX5_closedOf, Cond.code yX5_closedOf cX5_closedOf 2 (some .int), Cond.fieldLink RX5 20 "TreeHashesModel" "count" "[I", Cond.methodLink RX5 132 yX5_chunk, Cond.instanceMethod yX5_chunk, Cond.selects RX5 yX5_chunk yX5_chunk, Cond.code yX5_chunk cX5_chunk 9 none]
def wsX5_pileOf_r2 : List Cond := [Cond.fieldLink RX5 100 "TreeHashesModel" "number" "J", Cond.fieldLink RX5 92 "TreeHashesModel" "blockLength" "I", Cond.fieldLink RX5 50 "TreeHashesModel" "block" "[I", Cond.fieldLink RX5 104 "TreeHashesModel" "flags" "I", Cond.methodLink RX5 111 yX5_mixIn, Cond.instanceMethod yX5_mixIn, Cond.selects RX5 yX5_mixIn yX5_mixIn, Cond.code yX5_mixIn cX5_mixIn 2 none, Cond.fieldLink RX5 53 "TreeHashesModel" "v" "[I", Cond.methodLink RX5 107 yX5_mix, Cond.instanceMethod yX5_mix, Cond.selects RX5 yX5_mix yX5_mix, Cond.code yX5_mix cX5_mix 6 none, Cond.fieldLink RX5 56 "TreeHashesModel" "w" "[I", Cond.fieldLink RX5 59 "TreeHashesModel" "old" "[I", Cond.fieldLink RX5 62 "TreeHashesModel" "order" "[I", Cond.methodLink RX5 96 yX5_turn, Cond.instanceMethod yX5_turn, Cond.selects RX5 yX5_turn yX5_turn, Cond.code yX5_turn cX5_turn 6 none, Cond.methodLink RX5 88 yX5_turned, Cond.static yX5_turned, Cond.code yX5_turned cX5_turned 2 (some .int), Cond.methodLink RX5 126 yX5_beginPile]
def wsX5_pileOf_r3 : List Cond := [Cond.instanceMethod yX5_beginPile, Cond.selects RX5 yX5_beginPile yX5_beginPile, Cond.code yX5_beginPile cX5_beginPile 1 none, Cond.fieldLink RX5 117 "TreeHashesModel" "high" "I", Cond.fieldLink RX5 120 "TreeHashesModel" "closed" "I", Cond.methodLink RX5 136 yX5_close, Cond.instanceMethod yX5_close, Cond.selects RX5 yX5_close yX5_close, Cond.code yX5_close cX5_close 2 none, Cond.fieldLink RX5 65 "TreeHashesModel" "pile" "[I", Cond.methodLink RX5 123 yX5_parent, Cond.instanceMethod yX5_parent, Cond.selects RX5 yX5_parent yX5_parent, Cond.code yX5_parent cX5_parent 2 none]
def wsX5_pileOf : List Cond := .code yX5_pileOf cX5_pileOf 5 none :: ((wsX5_pileOf_r1 ++ (wsX5_pileOf_r2 ++ wsX5_pileOf_r3)) ++ wsX50)
def wsX5_isRegister : List Cond := .code yX5_isRegister cX5_isRegister 1 (some .boolean) :: ([])
def wsX5_isHasher : List Cond := .code yX5_isHasher cX5_isHasher 1 (some .boolean) :: ([])
def wsX5_add : List Cond := .code yX5_add cX5_add 6 (some .int) :: ([.fieldLink RX5 13 "TreeHashesModel" "sizes" "[I", .fieldLink RX5 7 "TreeHashesModel" "registers" "[I", .constantLong RX5 151 (255), .methodLink RX5 147 yX5_isRegister, .static yX5_isRegister, .initialized RX5, .code yX5_isRegister cX5_isRegister 1 (some .boolean)] ++ wsX50)
def wsX5_clear : List Cond := .code yX5_clear cX5_clear 3 (some .int) :: ([.fieldLink RX5 13 "TreeHashesModel" "sizes" "[I", .methodLink RX5 147 yX5_isRegister, .static yX5_isRegister, .initialized RX5, .code yX5_isRegister cX5_isRegister 1 (some .boolean)] ++ wsX50)
def wsX5_size : List Cond := .code yX5_size cX5_size 2 (some .int) :: ([.fieldLink RX5 13 "TreeHashesModel" "sizes" "[I", .methodLink RX5 147 yX5_isRegister, .static yX5_isRegister, .initialized RX5, .code yX5_isRegister cX5_isRegister 1 (some .boolean)] ++ wsX50)
def wsX5_at : List Cond := .code yX5_at cX5_at 3 (some .int) :: ([.fieldLink RX5 13 "TreeHashesModel" "sizes" "[I", .fieldLink RX5 7 "TreeHashesModel" "registers" "[I", .methodLink RX5 147 yX5_isRegister, .static yX5_isRegister, .initialized RX5, .code yX5_isRegister cX5_isRegister 1 (some .boolean)] ++ wsX50)
def wsX5_wordAt : List Cond := .code yX5_wordAt cX5_wordAt 2 (some .int) :: ([])
def wsX5_begin_r1 : List Cond := [Cond.fieldLink RX5 13 "TreeHashesModel" "sizes" "[I", Cond.fieldLink RX5 20 "TreeHashesModel" "count" "[I", Cond.fieldLink RX5 32 "TreeHashesModel" "made" "[I", Cond.fieldLink RX5 23 "TreeHashesModel" "mode" "[I", Cond.fieldLink RX5 26 "TreeHashesModel" "keys" "[I", Cond.fieldLink RX5 7 "TreeHashesModel" "registers" "[I", Cond.fieldLink RX5 114 "TreeHashesModel" "base" "I", Cond.fieldLink RX5 104 "TreeHashesModel" "flags" "I", Cond.fieldLink RX5 53 "TreeHashesModel" "v" "[I", Cond.methodLink RX5 153 yX5_isHasher, Cond.static yX5_isHasher, Cond.initialized RX5, Cond.code yX5_isHasher cX5_isHasher 1 (some .boolean), Cond.methodLink RX5 147 yX5_isRegister, Cond.static yX5_isRegister, Cond.code yX5_isRegister cX5_isRegister 1 (some .boolean), Cond.methodLink RX5 84 yX5_plain, Cond.instanceMethod yX5_plain, Cond.selects RX5 yX5_plain yX5_plain, Cond.code yX5_plain cX5_plain 3 none, Cond.fieldLink RX5 41 "TreeHashesModel" "start" "[I", Cond.methodLink RX5 156 yX5_wordAt, Cond.static yX5_wordAt, Cond.code yX5_wordAt cX5_wordAt 2 (some .int)]
def wsX5_begin_r2 : List Cond := [Cond.methodLink RX5 139 yX5_useKey, Cond.instanceMethod yX5_useKey, Cond.selects RX5 yX5_useKey yX5_useKey, Cond.code yX5_useKey cX5_useKey 3 none, Cond.fieldLink RX5 44 "TreeHashesModel" "key" "[I", Cond.methodLink RX5 132 yX5_chunk, Cond.instanceMethod yX5_chunk, Cond.selects RX5 yX5_chunk yX5_chunk, Cond.code yX5_chunk cX5_chunk 9 none, Cond.fieldLink RX5 47 "TreeHashesModel" "chain" "[I", Cond.fieldLink RX5 100 "TreeHashesModel" "number" "J", Cond.fieldLink RX5 92 "TreeHashesModel" "blockLength" "I", Cond.fieldLink RX5 50 "TreeHashesModel" "block" "[I", Cond.methodLink RX5 111 yX5_mixIn, Cond.instanceMethod yX5_mixIn, Cond.selects RX5 yX5_mixIn yX5_mixIn, Cond.code yX5_mixIn cX5_mixIn 2 none, Cond.methodLink RX5 107 yX5_mix, Cond.instanceMethod yX5_mix, Cond.selects RX5 yX5_mix yX5_mix, Cond.code yX5_mix cX5_mix 6 none, Cond.fieldLink RX5 56 "TreeHashesModel" "w" "[I", Cond.fieldLink RX5 59 "TreeHashesModel" "old" "[I", Cond.fieldLink RX5 62 "TreeHashesModel" "order" "[I"]
def wsX5_begin_r3 : List Cond := [Cond.methodLink RX5 96 yX5_turn, Cond.instanceMethod yX5_turn, Cond.selects RX5 yX5_turn yX5_turn, Cond.code yX5_turn cX5_turn 6 none, Cond.methodLink RX5 88 yX5_turned, Cond.static yX5_turned, Cond.code yX5_turned cX5_turned 2 (some .int)]
def wsX5_begin : List Cond := .code yX5_begin cX5_begin 5 (some .int) :: ((wsX5_begin_r1 ++ (wsX5_begin_r2 ++ wsX5_begin_r3)) ++ wsX50)
def wsX5_take : List Cond := .code yX5_take cX5_take 4 (some .int) :: ([.fieldLink RX5 20 "TreeHashesModel" "count" "[I", .fieldLink RX5 13 "TreeHashesModel" "sizes" "[I", .constant RX5 146 (40000), .fieldLink RX5 17 "TreeHashesModel" "taken" "[I", .fieldLink RX5 7 "TreeHashesModel" "registers" "[I", .methodLink RX5 153 yX5_isHasher, .static yX5_isHasher, .initialized RX5, .code yX5_isHasher cX5_isHasher 1 (some .boolean), .methodLink RX5 147 yX5_isRegister, .static yX5_isRegister, .code yX5_isRegister cX5_isRegister 1 (some .boolean)] ++ wsX50)
def wsX5_fill : List Cond := .code yX5_fill cX5_fill 6 (some .int) :: ([.fieldLink RX5 20 "TreeHashesModel" "count" "[I", .constant RX5 146 (40000), .fieldLink RX5 17 "TreeHashesModel" "taken" "[I", .methodLink RX5 153 yX5_isHasher, .static yX5_isHasher, .initialized RX5, .code yX5_isHasher cX5_isHasher 1 (some .boolean)] ++ wsX50)
def wsX5_rootOf_r1 : List Cond := [Cond.fieldLink RX5 17 "TreeHashesModel" "taken" "[I", Cond.constant RX5 146 (40000), Cond.fieldLink RX5 20 "TreeHashesModel" "count" "[I", Cond.fieldLink RX5 117 "TreeHashesModel" "high" "I", Cond.methodLink RX5 160 yX5_pileOf, Cond.instanceMethod yX5_pileOf, Cond.selects RX5 yX5_pileOf yX5_pileOf, Cond.initialized RX5, Cond.code yX5_pileOf cX5_pileOf 5 none, Cond.fieldLink RX5 32 "TreeHashesModel" "made" "[I", Cond.fieldLink RX5 29 "TreeHashesModel" "chains" "[I", Cond.fieldLink RX5 47 "TreeHashesModel" "chain" "[I", Cond.methodLink RX5 139 yX5_useKey, Cond.instanceMethod yX5_useKey, Cond.selects RX5 yX5_useKey yX5_useKey, Cond.code yX5_useKey cX5_useKey 3 none, Cond.fieldLink RX5 44 "TreeHashesModel" "key" "[I", Cond.fieldLink RX5 41 "TreeHashesModel" "start" "[I", Cond.fieldLink RX5 26 "TreeHashesModel" "keys" "[I", Cond.fieldLink RX5 23 "TreeHashesModel" "mode" "[I", Cond.fieldLink RX5 114 "TreeHashesModel" "base" "I", Cond.methodLink RX5 142 yX5_closedOf, Cond.instanceMethod yX5_closedOf, Cond.selects RX5 yX5_closedOf yX5_closedOf]
def wsX5_rootOf_r2 : List Cond := [Cond.code yX5_closedOf cX5_closedOf 2 (some .int), Cond.methodLink RX5 132 yX5_chunk, Cond.instanceMethod yX5_chunk, Cond.selects RX5 yX5_chunk yX5_chunk, Cond.code yX5_chunk cX5_chunk 9 none, Cond.fieldLink RX5 100 "TreeHashesModel" "number" "J", Cond.fieldLink RX5 92 "TreeHashesModel" "blockLength" "I", Cond.fieldLink RX5 50 "TreeHashesModel" "block" "[I", Cond.fieldLink RX5 104 "TreeHashesModel" "flags" "I", Cond.methodLink RX5 111 yX5_mixIn, Cond.instanceMethod yX5_mixIn, Cond.selects RX5 yX5_mixIn yX5_mixIn, Cond.code yX5_mixIn cX5_mixIn 2 none, Cond.fieldLink RX5 53 "TreeHashesModel" "v" "[I", Cond.methodLink RX5 107 yX5_mix, Cond.instanceMethod yX5_mix, Cond.selects RX5 yX5_mix yX5_mix, Cond.code yX5_mix cX5_mix 6 none, Cond.fieldLink RX5 56 "TreeHashesModel" "w" "[I", Cond.fieldLink RX5 59 "TreeHashesModel" "old" "[I", Cond.fieldLink RX5 62 "TreeHashesModel" "order" "[I", Cond.methodLink RX5 96 yX5_turn, Cond.instanceMethod yX5_turn, Cond.selects RX5 yX5_turn yX5_turn]
def wsX5_rootOf_r3 : List Cond := [Cond.code yX5_turn cX5_turn 6 none, Cond.methodLink RX5 88 yX5_turned, Cond.static yX5_turned, Cond.code yX5_turned cX5_turned 2 (some .int), Cond.methodLink RX5 126 yX5_beginPile, Cond.instanceMethod yX5_beginPile, Cond.selects RX5 yX5_beginPile yX5_beginPile, Cond.code yX5_beginPile cX5_beginPile 1 none, Cond.fieldLink RX5 120 "TreeHashesModel" "closed" "I", Cond.methodLink RX5 136 yX5_close, Cond.instanceMethod yX5_close, Cond.selects RX5 yX5_close yX5_close, Cond.code yX5_close cX5_close 2 none, Cond.fieldLink RX5 65 "TreeHashesModel" "pile" "[I", Cond.methodLink RX5 123 yX5_parent, Cond.instanceMethod yX5_parent, Cond.selects RX5 yX5_parent yX5_parent, Cond.code yX5_parent cX5_parent 2 none]
def wsX5_rootOf : List Cond := .code yX5_rootOf cX5_rootOf 3 none :: ((wsX5_rootOf_r1 ++ (wsX5_rootOf_r2 ++ wsX5_rootOf_r3)) ++ wsX50)
def wsX5_output_r1 : List Cond := [Cond.constantLong RX5 163 (4611686018427387904), Cond.constantLong RX5 172 (-1), Cond.constantLong RX5 174 (64), Cond.fieldLink RX5 104 "TreeHashesModel" "flags" "I", Cond.fieldLink RX5 53 "TreeHashesModel" "v" "[I", Cond.fieldLink RX5 7 "TreeHashesModel" "registers" "[I", Cond.constantLong RX5 176 (4), Cond.fieldLink RX5 13 "TreeHashesModel" "sizes" "[I", Cond.methodLink RX5 153 yX5_isHasher, Cond.static yX5_isHasher, Cond.initialized RX5, Cond.code yX5_isHasher cX5_isHasher 1 (some .boolean), Cond.methodLink RX5 147 yX5_isRegister, Cond.static yX5_isRegister, Cond.code yX5_isRegister cX5_isRegister 1 (some .boolean), Cond.methodLink RX5 165 yX5_in, Cond.static yX5_in, Cond.code yX5_in cX5_in 6 (some .boolean), Cond.methodLink RX5 169 yX5_rootOf, Cond.instanceMethod yX5_rootOf, Cond.selects RX5 yX5_rootOf yX5_rootOf, Cond.code yX5_rootOf cX5_rootOf 3 none, Cond.fieldLink RX5 17 "TreeHashesModel" "taken" "[I", Cond.constant RX5 146 (40000)]
def wsX5_output_r2 : List Cond := [Cond.fieldLink RX5 20 "TreeHashesModel" "count" "[I", Cond.fieldLink RX5 117 "TreeHashesModel" "high" "I", Cond.methodLink RX5 160 yX5_pileOf, Cond.instanceMethod yX5_pileOf, Cond.selects RX5 yX5_pileOf yX5_pileOf, Cond.code yX5_pileOf cX5_pileOf 5 none, Cond.fieldLink RX5 32 "TreeHashesModel" "made" "[I", Cond.fieldLink RX5 29 "TreeHashesModel" "chains" "[I", Cond.fieldLink RX5 47 "TreeHashesModel" "chain" "[I", Cond.methodLink RX5 139 yX5_useKey, Cond.instanceMethod yX5_useKey, Cond.selects RX5 yX5_useKey yX5_useKey, Cond.code yX5_useKey cX5_useKey 3 none, Cond.fieldLink RX5 44 "TreeHashesModel" "key" "[I", Cond.fieldLink RX5 41 "TreeHashesModel" "start" "[I", Cond.fieldLink RX5 26 "TreeHashesModel" "keys" "[I", Cond.fieldLink RX5 23 "TreeHashesModel" "mode" "[I", Cond.fieldLink RX5 114 "TreeHashesModel" "base" "I", Cond.methodLink RX5 142 yX5_closedOf, Cond.instanceMethod yX5_closedOf, Cond.selects RX5 yX5_closedOf yX5_closedOf, Cond.code yX5_closedOf cX5_closedOf 2 (some .int), Cond.methodLink RX5 132 yX5_chunk, Cond.instanceMethod yX5_chunk]
def wsX5_output_r3 : List Cond := [Cond.selects RX5 yX5_chunk yX5_chunk, Cond.code yX5_chunk cX5_chunk 9 none, Cond.fieldLink RX5 100 "TreeHashesModel" "number" "J", Cond.fieldLink RX5 92 "TreeHashesModel" "blockLength" "I", Cond.fieldLink RX5 50 "TreeHashesModel" "block" "[I", Cond.methodLink RX5 111 yX5_mixIn, Cond.instanceMethod yX5_mixIn, Cond.selects RX5 yX5_mixIn yX5_mixIn, Cond.code yX5_mixIn cX5_mixIn 2 none, Cond.methodLink RX5 107 yX5_mix, Cond.instanceMethod yX5_mix, Cond.selects RX5 yX5_mix yX5_mix, Cond.code yX5_mix cX5_mix 6 none, Cond.fieldLink RX5 56 "TreeHashesModel" "w" "[I", Cond.fieldLink RX5 59 "TreeHashesModel" "old" "[I", Cond.fieldLink RX5 62 "TreeHashesModel" "order" "[I", Cond.methodLink RX5 96 yX5_turn, Cond.instanceMethod yX5_turn, Cond.selects RX5 yX5_turn yX5_turn, Cond.code yX5_turn cX5_turn 6 none, Cond.methodLink RX5 88 yX5_turned, Cond.static yX5_turned, Cond.code yX5_turned cX5_turned 2 (some .int), Cond.methodLink RX5 126 yX5_beginPile]
def wsX5_output_r4 : List Cond := [Cond.instanceMethod yX5_beginPile, Cond.selects RX5 yX5_beginPile yX5_beginPile, Cond.code yX5_beginPile cX5_beginPile 1 none, Cond.fieldLink RX5 120 "TreeHashesModel" "closed" "I", Cond.methodLink RX5 136 yX5_close, Cond.instanceMethod yX5_close, Cond.selects RX5 yX5_close yX5_close, Cond.code yX5_close cX5_close 2 none, Cond.fieldLink RX5 65 "TreeHashesModel" "pile" "[I", Cond.methodLink RX5 123 yX5_parent, Cond.instanceMethod yX5_parent, Cond.selects RX5 yX5_parent yX5_parent, Cond.code yX5_parent cX5_parent 2 none]
def wsX5_output : List Cond := .code yX5_output cX5_output 12 (some .int) :: ((wsX5_output_r1 ++ (wsX5_output_r2 ++ (wsX5_output_r3 ++ wsX5_output_r4))) ++ wsX50)
def wsX5_copy : List Cond := .code yX5_copy cX5_copy 4 (some .int) :: ([.fieldLink RX5 20 "TreeHashesModel" "count" "[I", .fieldLink RX5 17 "TreeHashesModel" "taken" "[I", .constant RX5 146 (40000), .fieldLink RX5 26 "TreeHashesModel" "keys" "[I", .fieldLink RX5 29 "TreeHashesModel" "chains" "[I", .fieldLink RX5 23 "TreeHashesModel" "mode" "[I", .fieldLink RX5 32 "TreeHashesModel" "made" "[I", .methodLink RX5 153 yX5_isHasher, .static yX5_isHasher, .initialized RX5, .code yX5_isHasher cX5_isHasher 1 (some .boolean)] ++ wsX50)
def wsX5_told : List Cond := .code yX5_told cX5_told 6 (some .int) :: ([.fieldLink RX5 23 "TreeHashesModel" "mode" "[I", .fieldLink RX5 20 "TreeHashesModel" "count" "[I", .methodLink RX5 153 yX5_isHasher, .static yX5_isHasher, .initialized RX5, .code yX5_isHasher cX5_isHasher 1 (some .boolean), .methodLink RX5 142 yX5_closedOf, .instanceMethod yX5_closedOf, .selects RX5 yX5_closedOf yX5_closedOf, .code yX5_closedOf cX5_closedOf 2 (some .int)] ++ wsX50)
def wsX5_chain_r1 : List Cond := [Cond.fieldLink RX5 117 "TreeHashesModel" "high" "I", Cond.fieldLink RX5 65 "TreeHashesModel" "pile" "[I", Cond.methodLink RX5 153 yX5_isHasher, Cond.static yX5_isHasher, Cond.initialized RX5, Cond.code yX5_isHasher cX5_isHasher 1 (some .boolean), Cond.methodLink RX5 160 yX5_pileOf, Cond.instanceMethod yX5_pileOf, Cond.selects RX5 yX5_pileOf yX5_pileOf, Cond.code yX5_pileOf cX5_pileOf 5 none, Cond.fieldLink RX5 32 "TreeHashesModel" "made" "[I", Cond.fieldLink RX5 17 "TreeHashesModel" "taken" "[I", Cond.constant RX5 146 (40000), Cond.fieldLink RX5 29 "TreeHashesModel" "chains" "[I", Cond.fieldLink RX5 47 "TreeHashesModel" "chain" "[I", Cond.methodLink RX5 139 yX5_useKey, Cond.instanceMethod yX5_useKey, Cond.selects RX5 yX5_useKey yX5_useKey, Cond.code yX5_useKey cX5_useKey 3 none, Cond.fieldLink RX5 44 "TreeHashesModel" "key" "[I", Cond.fieldLink RX5 41 "TreeHashesModel" "start" "[I", Cond.fieldLink RX5 26 "TreeHashesModel" "keys" "[I", Cond.fieldLink RX5 23 "TreeHashesModel" "mode" "[I", Cond.fieldLink RX5 114 "TreeHashesModel" "base" "I"]
def wsX5_chain_r2 : List Cond := [Cond.methodLink RX5 142 yX5_closedOf, Cond.instanceMethod yX5_closedOf, Cond.selects RX5 yX5_closedOf yX5_closedOf, Cond.code yX5_closedOf cX5_closedOf 2 (some .int), Cond.fieldLink RX5 20 "TreeHashesModel" "count" "[I", Cond.methodLink RX5 132 yX5_chunk, Cond.instanceMethod yX5_chunk, Cond.selects RX5 yX5_chunk yX5_chunk, Cond.code yX5_chunk cX5_chunk 9 none, Cond.fieldLink RX5 100 "TreeHashesModel" "number" "J", Cond.fieldLink RX5 92 "TreeHashesModel" "blockLength" "I", Cond.fieldLink RX5 50 "TreeHashesModel" "block" "[I", Cond.fieldLink RX5 104 "TreeHashesModel" "flags" "I", Cond.methodLink RX5 111 yX5_mixIn, Cond.instanceMethod yX5_mixIn, Cond.selects RX5 yX5_mixIn yX5_mixIn, Cond.code yX5_mixIn cX5_mixIn 2 none, Cond.fieldLink RX5 53 "TreeHashesModel" "v" "[I", Cond.methodLink RX5 107 yX5_mix, Cond.instanceMethod yX5_mix, Cond.selects RX5 yX5_mix yX5_mix, Cond.code yX5_mix cX5_mix 6 none, Cond.fieldLink RX5 56 "TreeHashesModel" "w" "[I", Cond.fieldLink RX5 59 "TreeHashesModel" "old" "[I"]
def wsX5_chain_r3 : List Cond := [Cond.fieldLink RX5 62 "TreeHashesModel" "order" "[I", Cond.methodLink RX5 96 yX5_turn, Cond.instanceMethod yX5_turn, Cond.selects RX5 yX5_turn yX5_turn, Cond.code yX5_turn cX5_turn 6 none, Cond.methodLink RX5 88 yX5_turned, Cond.static yX5_turned, Cond.code yX5_turned cX5_turned 2 (some .int), Cond.methodLink RX5 126 yX5_beginPile, Cond.instanceMethod yX5_beginPile, Cond.selects RX5 yX5_beginPile yX5_beginPile, Cond.code yX5_beginPile cX5_beginPile 1 none, Cond.fieldLink RX5 120 "TreeHashesModel" "closed" "I", Cond.methodLink RX5 136 yX5_close, Cond.instanceMethod yX5_close, Cond.selects RX5 yX5_close yX5_close, Cond.code yX5_close cX5_close 2 none, Cond.methodLink RX5 123 yX5_parent, Cond.instanceMethod yX5_parent, Cond.selects RX5 yX5_parent yX5_parent, Cond.code yX5_parent cX5_parent 2 none]
def wsX5_chain : List Cond := .code yX5_chain cX5_chain 4 (some .int) :: ((wsX5_chain_r1 ++ (wsX5_chain_r2 ++ wsX5_chain_r3)) ++ wsX50)
def wsX5_grow : List Cond := .code yX5_grow cX5_grow 5 (some .int) :: ([.fieldLink RX5 178 "TreeHashesModel" "length" "I", .fieldLink RX5 35 "TreeHashesModel" "file" "[I"] ++ wsX50)
def wsX5_spoil : List Cond := .code yX5_spoil cX5_spoil 3 (some .int) :: ([.fieldLink RX5 178 "TreeHashesModel" "length" "I", .fieldLink RX5 35 "TreeHashesModel" "file" "[I"] ++ wsX50)
def wsX5_shorten : List Cond := .code yX5_shorten cX5_shorten 3 (some .int) :: ([.fieldLink RX5 178 "TreeHashesModel" "length" "I"] ++ wsX50)
def wsX5_root_r1 : List Cond := [Cond.fieldLink RX5 35 "TreeHashesModel" "file" "[I", Cond.fieldLink RX5 178 "TreeHashesModel" "length" "I", Cond.fieldLink RX5 104 "TreeHashesModel" "flags" "I", Cond.fieldLink RX5 7 "TreeHashesModel" "registers" "[I", Cond.fieldLink RX5 53 "TreeHashesModel" "v" "[I", Cond.fieldLink RX5 13 "TreeHashesModel" "sizes" "[I", Cond.methodLink RX5 147 yX5_isRegister, Cond.static yX5_isRegister, Cond.initialized RX5, Cond.code yX5_isRegister cX5_isRegister 1 (some .boolean), Cond.methodLink RX5 139 yX5_useKey, Cond.instanceMethod yX5_useKey, Cond.selects RX5 yX5_useKey yX5_useKey, Cond.code yX5_useKey cX5_useKey 3 none, Cond.fieldLink RX5 44 "TreeHashesModel" "key" "[I", Cond.fieldLink RX5 41 "TreeHashesModel" "start" "[I", Cond.fieldLink RX5 26 "TreeHashesModel" "keys" "[I", Cond.fieldLink RX5 23 "TreeHashesModel" "mode" "[I", Cond.fieldLink RX5 114 "TreeHashesModel" "base" "I", Cond.methodLink RX5 181 yX5_chunksOf, Cond.static yX5_chunksOf, Cond.code yX5_chunksOf cX5_chunksOf 1 (some .int), Cond.methodLink RX5 184 yX5_tree, Cond.instanceMethod yX5_tree]
def wsX5_root_r2 : List Cond := [Cond.selects RX5 yX5_tree yX5_tree, Cond.code yX5_tree cX5_tree 7 none, Cond.fieldLink RX5 117 "TreeHashesModel" "high" "I", Cond.methodLink RX5 126 yX5_beginPile, Cond.instanceMethod yX5_beginPile, Cond.selects RX5 yX5_beginPile yX5_beginPile, Cond.code yX5_beginPile cX5_beginPile 1 none, Cond.fieldLink RX5 120 "TreeHashesModel" "closed" "I", Cond.methodLink RX5 129 yX5_chunkSize, Cond.static yX5_chunkSize, Cond.code yX5_chunkSize cX5_chunkSize 2 (some .int), Cond.methodLink RX5 132 yX5_chunk, Cond.instanceMethod yX5_chunk, Cond.selects RX5 yX5_chunk yX5_chunk, Cond.code yX5_chunk cX5_chunk 9 none, Cond.fieldLink RX5 47 "TreeHashesModel" "chain" "[I", Cond.fieldLink RX5 100 "TreeHashesModel" "number" "J", Cond.fieldLink RX5 92 "TreeHashesModel" "blockLength" "I", Cond.fieldLink RX5 50 "TreeHashesModel" "block" "[I", Cond.methodLink RX5 111 yX5_mixIn, Cond.instanceMethod yX5_mixIn, Cond.selects RX5 yX5_mixIn yX5_mixIn, Cond.code yX5_mixIn cX5_mixIn 2 none, Cond.methodLink RX5 107 yX5_mix]
def wsX5_root_r3 : List Cond := [Cond.instanceMethod yX5_mix, Cond.selects RX5 yX5_mix yX5_mix, Cond.code yX5_mix cX5_mix 6 none, Cond.fieldLink RX5 56 "TreeHashesModel" "w" "[I", Cond.fieldLink RX5 59 "TreeHashesModel" "old" "[I", Cond.fieldLink RX5 62 "TreeHashesModel" "order" "[I", Cond.methodLink RX5 96 yX5_turn, Cond.instanceMethod yX5_turn, Cond.selects RX5 yX5_turn yX5_turn, Cond.code yX5_turn cX5_turn 6 none, Cond.methodLink RX5 88 yX5_turned, Cond.static yX5_turned, Cond.code yX5_turned cX5_turned 2 (some .int), Cond.methodLink RX5 136 yX5_close, Cond.instanceMethod yX5_close, Cond.selects RX5 yX5_close yX5_close, Cond.code yX5_close cX5_close 2 none, Cond.fieldLink RX5 65 "TreeHashesModel" "pile" "[I", Cond.methodLink RX5 123 yX5_parent, Cond.instanceMethod yX5_parent, Cond.selects RX5 yX5_parent yX5_parent, Cond.code yX5_parent cX5_parent 2 none]
def wsX5_root : List Cond := .code yX5_root cX5_root 3 (some .int) :: ((wsX5_root_r1 ++ (wsX5_root_r2 ++ wsX5_root_r3)) ++ wsX50)
def wsX5_leftOf : List Cond := .code yX5_leftOf cX5_leftOf 2 (some .int) :: ([])
def wsX5_prove_r1 : List Cond := [Cond.fieldLink RX5 178 "TreeHashesModel" "length" "I", Cond.fieldLink RX5 188 "TreeHashesModel" "proofSize" "I", Cond.fieldLink RX5 38 "TreeHashesModel" "proof" "[I", Cond.fieldLink RX5 35 "TreeHashesModel" "file" "[I", Cond.fieldLink RX5 47 "TreeHashesModel" "chain" "[I", Cond.methodLink RX5 181 yX5_chunksOf, Cond.static yX5_chunksOf, Cond.initialized RX5, Cond.code yX5_chunksOf cX5_chunksOf 1 (some .int), Cond.methodLink RX5 139 yX5_useKey, Cond.instanceMethod yX5_useKey, Cond.selects RX5 yX5_useKey yX5_useKey, Cond.code yX5_useKey cX5_useKey 3 none, Cond.fieldLink RX5 44 "TreeHashesModel" "key" "[I", Cond.fieldLink RX5 41 "TreeHashesModel" "start" "[I", Cond.fieldLink RX5 26 "TreeHashesModel" "keys" "[I", Cond.fieldLink RX5 23 "TreeHashesModel" "mode" "[I", Cond.fieldLink RX5 114 "TreeHashesModel" "base" "I", Cond.methodLink RX5 129 yX5_chunkSize, Cond.static yX5_chunkSize, Cond.code yX5_chunkSize cX5_chunkSize 2 (some .int), Cond.methodLink RX5 191 yX5_leftOf, Cond.static yX5_leftOf, Cond.code yX5_leftOf cX5_leftOf 2 (some .int)]
def wsX5_prove_r2 : List Cond := [Cond.methodLink RX5 184 yX5_tree, Cond.instanceMethod yX5_tree, Cond.selects RX5 yX5_tree yX5_tree, Cond.code yX5_tree cX5_tree 7 none, Cond.fieldLink RX5 117 "TreeHashesModel" "high" "I", Cond.methodLink RX5 126 yX5_beginPile, Cond.instanceMethod yX5_beginPile, Cond.selects RX5 yX5_beginPile yX5_beginPile, Cond.code yX5_beginPile cX5_beginPile 1 none, Cond.fieldLink RX5 120 "TreeHashesModel" "closed" "I", Cond.methodLink RX5 132 yX5_chunk, Cond.instanceMethod yX5_chunk, Cond.selects RX5 yX5_chunk yX5_chunk, Cond.code yX5_chunk cX5_chunk 9 none, Cond.fieldLink RX5 100 "TreeHashesModel" "number" "J", Cond.fieldLink RX5 92 "TreeHashesModel" "blockLength" "I", Cond.fieldLink RX5 50 "TreeHashesModel" "block" "[I", Cond.fieldLink RX5 104 "TreeHashesModel" "flags" "I", Cond.methodLink RX5 111 yX5_mixIn, Cond.instanceMethod yX5_mixIn, Cond.selects RX5 yX5_mixIn yX5_mixIn, Cond.code yX5_mixIn cX5_mixIn 2 none, Cond.fieldLink RX5 53 "TreeHashesModel" "v" "[I", Cond.methodLink RX5 107 yX5_mix]
def wsX5_prove_r3 : List Cond := [Cond.instanceMethod yX5_mix, Cond.selects RX5 yX5_mix yX5_mix, Cond.code yX5_mix cX5_mix 6 none, Cond.fieldLink RX5 56 "TreeHashesModel" "w" "[I", Cond.fieldLink RX5 59 "TreeHashesModel" "old" "[I", Cond.fieldLink RX5 62 "TreeHashesModel" "order" "[I", Cond.methodLink RX5 96 yX5_turn, Cond.instanceMethod yX5_turn, Cond.selects RX5 yX5_turn yX5_turn, Cond.code yX5_turn cX5_turn 6 none, Cond.methodLink RX5 88 yX5_turned, Cond.static yX5_turned, Cond.code yX5_turned cX5_turned 2 (some .int), Cond.methodLink RX5 136 yX5_close, Cond.instanceMethod yX5_close, Cond.selects RX5 yX5_close yX5_close, Cond.code yX5_close cX5_close 2 none, Cond.fieldLink RX5 65 "TreeHashesModel" "pile" "[I", Cond.methodLink RX5 123 yX5_parent, Cond.instanceMethod yX5_parent, Cond.selects RX5 yX5_parent yX5_parent, Cond.code yX5_parent cX5_parent 2 none]
def wsX5_prove : List Cond := .code yX5_prove cX5_prove 9 (some .int) :: ((wsX5_prove_r1 ++ (wsX5_prove_r2 ++ wsX5_prove_r3)) ++ wsX50)
def wsX5_proof : List Cond := .code yX5_proof cX5_proof 2 (some .int) :: ([.fieldLink RX5 188 "TreeHashesModel" "proofSize" "I", .fieldLink RX5 38 "TreeHashesModel" "proof" "[I"] ++ wsX50)
def wsX5_forge : List Cond := .code yX5_forge cX5_forge 3 (some .int) :: ([.fieldLink RX5 188 "TreeHashesModel" "proofSize" "I", .fieldLink RX5 38 "TreeHashesModel" "proof" "[I"] ++ wsX50)
def wsX5_cut : List Cond := .code yX5_cut cX5_cut 3 (some .int) :: ([.fieldLink RX5 188 "TreeHashesModel" "proofSize" "I"] ++ wsX50)
def wsX5_check_r1 : List Cond := [Cond.constant RX5 194 (1000000), Cond.fieldLink RX5 13 "TreeHashesModel" "sizes" "[I", Cond.fieldLink RX5 68 "TreeHashesModel" "isLeft" "[Z", Cond.fieldLink RX5 188 "TreeHashesModel" "proofSize" "I", Cond.fieldLink RX5 38 "TreeHashesModel" "proof" "[I", Cond.fieldLink RX5 50 "TreeHashesModel" "block" "[I", Cond.fieldLink RX5 47 "TreeHashesModel" "chain" "[I", Cond.fieldLink RX5 44 "TreeHashesModel" "key" "[I", Cond.fieldLink RX5 100 "TreeHashesModel" "number" "J", Cond.fieldLink RX5 92 "TreeHashesModel" "blockLength" "I", Cond.fieldLink RX5 114 "TreeHashesModel" "base" "I", Cond.fieldLink RX5 104 "TreeHashesModel" "flags" "I", Cond.fieldLink RX5 7 "TreeHashesModel" "registers" "[I", Cond.fieldLink RX5 53 "TreeHashesModel" "v" "[I", Cond.methodLink RX5 147 yX5_isRegister, Cond.static yX5_isRegister, Cond.initialized RX5, Cond.code yX5_isRegister cX5_isRegister 1 (some .boolean), Cond.methodLink RX5 181 yX5_chunksOf, Cond.static yX5_chunksOf, Cond.code yX5_chunksOf cX5_chunksOf 1 (some .int), Cond.methodLink RX5 191 yX5_leftOf, Cond.static yX5_leftOf, Cond.code yX5_leftOf cX5_leftOf 2 (some .int)]
def wsX5_check_r2 : List Cond := [Cond.methodLink RX5 129 yX5_chunkSize, Cond.static yX5_chunkSize, Cond.code yX5_chunkSize cX5_chunkSize 2 (some .int), Cond.methodLink RX5 139 yX5_useKey, Cond.instanceMethod yX5_useKey, Cond.selects RX5 yX5_useKey yX5_useKey, Cond.code yX5_useKey cX5_useKey 3 none, Cond.fieldLink RX5 41 "TreeHashesModel" "start" "[I", Cond.fieldLink RX5 26 "TreeHashesModel" "keys" "[I", Cond.fieldLink RX5 23 "TreeHashesModel" "mode" "[I", Cond.methodLink RX5 132 yX5_chunk, Cond.instanceMethod yX5_chunk, Cond.selects RX5 yX5_chunk yX5_chunk, Cond.code yX5_chunk cX5_chunk 9 none, Cond.methodLink RX5 111 yX5_mixIn, Cond.instanceMethod yX5_mixIn, Cond.selects RX5 yX5_mixIn yX5_mixIn, Cond.code yX5_mixIn cX5_mixIn 2 none, Cond.methodLink RX5 107 yX5_mix, Cond.instanceMethod yX5_mix, Cond.selects RX5 yX5_mix yX5_mix, Cond.code yX5_mix cX5_mix 6 none, Cond.fieldLink RX5 56 "TreeHashesModel" "w" "[I", Cond.fieldLink RX5 59 "TreeHashesModel" "old" "[I"]
def wsX5_check_r3 : List Cond := [Cond.fieldLink RX5 62 "TreeHashesModel" "order" "[I", Cond.methodLink RX5 96 yX5_turn, Cond.instanceMethod yX5_turn, Cond.selects RX5 yX5_turn yX5_turn, Cond.code yX5_turn cX5_turn 6 none, Cond.methodLink RX5 88 yX5_turned, Cond.static yX5_turned, Cond.code yX5_turned cX5_turned 2 (some .int), Cond.methodLink RX5 156 yX5_wordAt, Cond.static yX5_wordAt, Cond.code yX5_wordAt cX5_wordAt 2 (some .int)]
def wsX5_check : List Cond := .code yX5_check cX5_check 12 (some .int) :: ((wsX5_check_r1 ++ (wsX5_check_r2 ++ wsX5_check_r3)) ++ wsX50)
def wsJ9_max_7cf53 : List Cond := .code yJ9_max_7cf53 cJ9_max_7cf53 2 (some .int) :: ([])
def wsJ9_min_7cf53 : List Cond := .code yJ9_min_7cf53 cJ9_min_7cf53 2 (some .int) :: ([])
def wsL_law_r1 : List Cond := [Cond.classLink RL 7 RX4, Cond.instantiable RX4 7, Cond.initialized RX4, Cond.classLink RL 10 RX5, Cond.instantiable RX5 28, Cond.initialized RX5, Cond.constantLong RL 13 (4294967295), Cond.methodLink RL 9 yX4_init, Cond.instanceMethod yX4_init, Cond.code yX4_init cX4_init 2 none, Cond.methodLink RX4 3 objectInit, Cond.instanceMethod objectInit, Cond.code objectInit ⟨#[0xb1]⟩ 1 none, Cond.classLink RX4 9 RX0, Cond.fieldLink RX4 11 "TreeHashes" "registers" "[LTreeHashes$Bytes;", Cond.classLink RX4 15 RX1, Cond.fieldLink RX4 17 "TreeHashes" "hashers" "[LTreeHashes$Hasher;", Cond.instantiable RX0 2, Cond.initialized RX0, Cond.fieldLink RX4 24 "TreeHashes" "file" "LTreeHashes$Bytes;", Cond.fieldLink RX4 28 "TreeHashes" "proven" "LTreeHashes$Bytes;", Cond.instantiable RX1 13, Cond.initialized RX1, Cond.fieldLink RX4 32 "TreeHashes" "worker" "LTreeHashes$Hasher;"]
def wsL_law_r2 : List Cond := [Cond.classLink RX4 36 RX3, Cond.instantiable RX3 3, Cond.initialized RX3, Cond.fieldLink RX4 39 "TreeHashes" "way" "LTreeHashes$Way;", Cond.arrayClass .int, Cond.fieldLink RX4 43 "TreeHashes" "words" "[I", Cond.methodLink RX4 21 yX0_init, Cond.instanceMethod yX0_init, Cond.code yX0_init cX0_init 2 none, Cond.methodLink RX0 3 objectInit, Cond.methodLink RX0 9 Lib.Math.max.name, Cond.static Lib.Math.max.name, Cond.initialized "java/lang/Math", Cond.code Lib.Math.max.name Lib.Math.max.code 2 (some .int), Cond.arrayClass .byte, Cond.fieldLink RX0 15 "TreeHashes$Bytes" "row" "[B", Cond.methodLink RX4 31 yX1_init, Cond.instanceMethod yX1_init, Cond.code yX1_init cX1_init 1 none, Cond.methodLink RX1 5 objectInit, Cond.classLink RX1 11 RX2, Cond.instantiable RX2 8, Cond.initialized RX2, Cond.fieldLink RX1 14 "TreeHashes$Hasher" "mix" "LTreeHashes$Mix;"]
def wsL_law_r3 : List Cond := [Cond.fieldLink RX1 18 "TreeHashes$Hasher" "key" "[I", Cond.fieldLink RX1 22 "TreeHashes$Hasher" "stack" "[I", Cond.fieldLink RX1 25 "TreeHashes$Hasher" "chunkChain" "[I", Cond.fieldLink RX1 28 "TreeHashes$Hasher" "block" "[I", Cond.fieldLink RX1 31 "TreeHashes$Mix" "START" "[I", Cond.instanceMethod yX2_init, Cond.code yX2_init cX2_init 1 none, Cond.methodLink RX2 3 objectInit, Cond.fieldLink RX2 9 "TreeHashes$Mix" "chain" "[I", Cond.fieldLink RX2 15 "TreeHashes$Mix" "block" "[I", Cond.fieldLink RX2 18 "TreeHashes$Mix" "v" "[I", Cond.fieldLink RX2 21 "TreeHashes$Mix" "w" "[I", Cond.fieldLink RX2 24 "TreeHashes$Mix" "nextW" "[I", Cond.methodLink RX1 34 yX1_restart, Cond.instanceMethod yX1_restart, Cond.selects RX1 yX1_restart yX1_restart, Cond.code yX1_restart cX1_restart 5 none, Cond.fieldLink RX1 42 "TreeHashes$Hasher" "mode" "I", Cond.fieldLink RX1 46 "TreeHashes$Hasher" "base" "I", Cond.fieldLink RX1 49 "TreeHashes$Hasher" "firstChunk" "I", Cond.fieldLink RX1 52 "TreeHashes$Hasher" "taken" "I", Cond.fieldLink RX1 55 "TreeHashes$Hasher" "closed" "I", Cond.fieldLink RX1 58 "TreeHashes$Hasher" "depth" "I", Cond.methodLink RX1 38 yX1_copyWords]
def wsL_law_r4 : List Cond := [Cond.static yX1_copyWords, Cond.code yX1_copyWords cX1_copyWords 3 none, Cond.methodLink RX1 61 yX1_startChunk, Cond.instanceMethod yX1_startChunk, Cond.selects RX1 yX1_startChunk yX1_startChunk, Cond.code yX1_startChunk cX1_startChunk 1 none, Cond.fieldLink RX1 64 "TreeHashes$Hasher" "blocks" "I", Cond.methodLink RX1 104 yX1_startBlock, Cond.instanceMethod yX1_startBlock, Cond.selects RX1 yX1_startBlock yX1_startBlock, Cond.code yX1_startBlock cX1_startBlock 2 none, Cond.fieldLink RX1 67 "TreeHashes$Hasher" "inBlock" "I", Cond.instanceMethod yX3_init, Cond.code yX3_init cX3_init 1 none, Cond.methodLink RX3 1 objectInit, Cond.fieldLink RX3 9 "TreeHashes$Way" "otherFirst" "[I", Cond.fieldLink RX3 13 "TreeHashes$Way" "otherChunks" "[I", Cond.methodLink RL 12 yX5_init, Cond.instanceMethod yX5_init, Cond.code yX5_init cX5_init 4 none, Cond.methodLink RX5 1 objectInit, Cond.fieldLink RX5 7 "TreeHashesModel" "registers" "[I", Cond.fieldLink RX5 13 "TreeHashesModel" "sizes" "[I", Cond.constant RX5 16 (160000)]
def wsL_law_r5 : List Cond := [Cond.fieldLink RX5 17 "TreeHashesModel" "taken" "[I", Cond.fieldLink RX5 20 "TreeHashesModel" "count" "[I", Cond.fieldLink RX5 23 "TreeHashesModel" "mode" "[I", Cond.fieldLink RX5 26 "TreeHashesModel" "keys" "[I", Cond.fieldLink RX5 29 "TreeHashesModel" "chains" "[I", Cond.fieldLink RX5 32 "TreeHashesModel" "made" "[I", Cond.fieldLink RX5 35 "TreeHashesModel" "file" "[I", Cond.fieldLink RX5 38 "TreeHashesModel" "proof" "[I", Cond.fieldLink RX5 41 "TreeHashesModel" "start" "[I", Cond.fieldLink RX5 44 "TreeHashesModel" "key" "[I", Cond.fieldLink RX5 47 "TreeHashesModel" "chain" "[I", Cond.fieldLink RX5 50 "TreeHashesModel" "block" "[I", Cond.fieldLink RX5 53 "TreeHashesModel" "v" "[I", Cond.fieldLink RX5 56 "TreeHashesModel" "w" "[I", Cond.fieldLink RX5 59 "TreeHashesModel" "old" "[I", Cond.fieldLink RX5 62 "TreeHashesModel" "order" "[I", Cond.fieldLink RX5 65 "TreeHashesModel" "pile" "[I", Cond.arrayClass .boolean, Cond.fieldLink RX5 68 "TreeHashesModel" "isLeft" "[Z", Cond.constant RX5 72 (1779033703), Cond.constant RX5 73 (-1150833019), Cond.constant RX5 74 (1013904242), Cond.constant RX5 75 (-1521486534), Cond.constant RX5 76 (1359893119)]
def wsL_law_r6 : List Cond := [Cond.constant RX5 77 (-1694144372), Cond.constant RX5 78 (528734635), Cond.constant RX5 79 (1541459225), Cond.constantLong RX5 80 (-8076822537876036766), Cond.constantLong RX5 82 (15), Cond.methodLink RX5 84 yX5_plain, Cond.instanceMethod yX5_plain, Cond.selects RX5 yX5_plain yX5_plain, Cond.code yX5_plain cX5_plain 3 none, Cond.methodLink RL 15 yX4_add, Cond.instanceMethod yX4_add, Cond.selects RX4 yX4_add yX4_add, Cond.code yX4_add cX4_add 6 (some .int), Cond.methodLink RX4 47 yX4_isRegister, Cond.static yX4_isRegister, Cond.code yX4_isRegister cX4_isRegister 1 (some .boolean), Cond.methodLink RX4 51 yX0_hasRoomFor, Cond.instanceMethod yX0_hasRoomFor, Cond.selects RX0 yX0_hasRoomFor yX0_hasRoomFor, Cond.code yX0_hasRoomFor cX0_hasRoomFor 2 (some .boolean), Cond.fieldLink RX0 21 "TreeHashes$Bytes" "count" "I", Cond.methodLink RX4 54 yX0_append, Cond.instanceMethod yX0_append, Cond.selects RX0 yX0_append yX0_append]
def wsL_law_r7 : List Cond := [Cond.code yX0_append cX0_append 2 none, Cond.methodLink RL 19 yX5_add, Cond.instanceMethod yX5_add, Cond.selects RX5 yX5_add yX5_add, Cond.code yX5_add cX5_add 6 (some .int), Cond.constantLong RX5 151 (255), Cond.methodLink RX5 147 yX5_isRegister, Cond.static yX5_isRegister, Cond.code yX5_isRegister cX5_isRegister 1 (some .boolean), Cond.methodLink RL 20 yX4_clear, Cond.instanceMethod yX4_clear, Cond.selects RX4 yX4_clear yX4_clear, Cond.code yX4_clear cX4_clear 2 (some .int), Cond.methodLink RX4 61 yX0_keepFirst, Cond.instanceMethod yX0_keepFirst, Cond.selects RX0 yX0_keepFirst yX0_keepFirst, Cond.code yX0_keepFirst cX0_keepFirst 3 (some .int), Cond.methodLink RL 24 yX5_clear, Cond.instanceMethod yX5_clear, Cond.selects RX5 yX5_clear yX5_clear, Cond.code yX5_clear cX5_clear 3 (some .int), Cond.methodLink RL 25 yX4_size, Cond.instanceMethod yX4_size, Cond.selects RX4 yX4_size yX4_size]
def wsL_law_r8 : List Cond := [Cond.code yX4_size cX4_size 2 (some .int), Cond.methodLink RL 28 yX5_size, Cond.instanceMethod yX5_size, Cond.selects RX5 yX5_size yX5_size, Cond.code yX5_size cX5_size 2 (some .int), Cond.methodLink RL 29 yX4_at, Cond.instanceMethod yX4_at, Cond.selects RX4 yX4_at yX4_at, Cond.code yX4_at cX4_at 3 (some .int), Cond.methodLink RX4 65 yX0_byteAt, Cond.instanceMethod yX0_byteAt, Cond.selects RX0 yX0_byteAt yX0_byteAt, Cond.code yX0_byteAt cX0_byteAt 2 (some .int), Cond.methodLink RL 33 yX5_at, Cond.instanceMethod yX5_at, Cond.selects RX5 yX5_at yX5_at, Cond.code yX5_at cX5_at 3 (some .int), Cond.methodLink RL 34 yX4_begin, Cond.instanceMethod yX4_begin, Cond.selects RX4 yX4_begin yX4_begin, Cond.code yX4_begin cX4_begin 4 (some .int), Cond.fieldLink RX4 71 "TreeHashes$Mix" "START" "[I", Cond.methodLink RX4 68 yX4_isHasher, Cond.static yX4_isHasher]
def wsL_law_r9 : List Cond := [Cond.code yX4_isHasher cX4_isHasher 1 (some .boolean), Cond.methodLink RX4 76 yX1_restart, Cond.methodLink RX4 80 yX0_readChain, Cond.instanceMethod yX0_readChain, Cond.selects RX0 yX0_readChain yX0_readChain, Cond.code yX0_readChain cX0_readChain 4 none, Cond.methodLink RX0 33 yX0_wordAt, Cond.instanceMethod yX0_wordAt, Cond.selects RX0 yX0_wordAt yX0_wordAt, Cond.code yX0_wordAt cX0_wordAt 2 (some .int), Cond.methodLink RX0 29 yX0_byteAt, Cond.methodLink RX4 84 yX4_deriveKey, Cond.instanceMethod yX4_deriveKey, Cond.selects RX4 yX4_deriveKey yX4_deriveKey, Cond.code yX4_deriveKey cX4_deriveKey 2 none, Cond.methodLink RX4 92 yX1_absorb, Cond.instanceMethod yX1_absorb, Cond.selects RX1 yX1_absorb yX1_absorb, Cond.code yX1_absorb cX1_absorb 5 none, Cond.methodLink RX1 70 yX0_byteAt, Cond.methodLink RX1 76 yX1_absorbByte, Cond.instanceMethod yX1_absorbByte, Cond.selects RX1 yX1_absorbByte yX1_absorbByte, Cond.code yX1_absorbByte cX1_absorbByte 2 none]
def wsL_law_r10 : List Cond := [Cond.methodLink RX1 80 yX1_closeChunk, Cond.instanceMethod yX1_closeChunk, Cond.selects RX1 yX1_closeChunk yX1_closeChunk, Cond.code yX1_closeChunk cX1_closeChunk 2 none, Cond.methodLink RX1 86 yX1_prepareBlock, Cond.instanceMethod yX1_prepareBlock, Cond.selects RX1 yX1_prepareBlock yX1_prepareBlock, Cond.code yX1_prepareBlock cX1_prepareBlock 3 none, Cond.methodLink RX1 96 yX2_prepare, Cond.instanceMethod yX2_prepare, Cond.selects RX2 yX2_prepare yX2_prepare, Cond.code yX2_prepare cX2_prepare 8 none, Cond.fieldLink RX2 27 "TreeHashes$Mix" "count" "J", Cond.fieldLink RX2 31 "TreeHashes$Mix" "length" "I", Cond.fieldLink RX2 35 "TreeHashes$Mix" "flags" "I", Cond.methodLink RX1 89 yX2_run, Cond.instanceMethod yX2_run, Cond.selects RX2 yX2_run yX2_run, Cond.code yX2_run cX2_run 2 none, Cond.methodLink RX2 66 yX2_fillIn, Cond.instanceMethod yX2_fillIn, Cond.selects RX2 yX2_fillIn yX2_fillIn, Cond.code yX2_fillIn cX2_fillIn 2 none, Cond.fieldLink RX2 76 "TreeHashes$Mix" "START" "[I"]
def wsL_law_r11 : List Cond := [Cond.methodLink RX2 69 yX2_turn, Cond.instanceMethod yX2_turn, Cond.selects RX2 yX2_turn yX2_turn, Cond.code yX2_turn cX2_turn 11 none, Cond.methodLink RX2 73 yX2_reorder, Cond.instanceMethod yX2_reorder, Cond.selects RX2 yX2_reorder yX2_reorder, Cond.code yX2_reorder cX2_reorder 2 none, Cond.fieldLink RX2 79 "TreeHashes$Mix" "ORDER" "[I", Cond.methodLink RX1 92 yX2_joinBehind, Cond.instanceMethod yX2_joinBehind, Cond.selects RX2 yX2_joinBehind yX2_joinBehind, Cond.code yX2_joinBehind cX2_joinBehind 6 none, Cond.methodLink RX2 38 yX2_prepare, Cond.methodLink RX1 100 yX2_writeChain, Cond.instanceMethod yX2_writeChain, Cond.selects RX2 yX2_writeChain yX2_writeChain, Cond.code yX2_writeChain cX2_writeChain 4 none, Cond.methodLink RX1 83 yX1_closeBlock, Cond.instanceMethod yX1_closeBlock, Cond.selects RX1 yX1_closeBlock yX1_closeBlock, Cond.code yX1_closeBlock cX1_closeBlock 1 none, Cond.methodLink RX4 101 yX1_prepareLast, Cond.instanceMethod yX1_prepareLast]
def wsL_law_r12 : List Cond := [Cond.selects RX1 yX1_prepareLast yX1_prepareLast, Cond.code yX1_prepareLast cX1_prepareLast 2 none, Cond.methodLink RX4 190 yX2_makeRoot, Cond.instanceMethod yX2_makeRoot, Cond.selects RX2 yX2_makeRoot yX2_makeRoot, Cond.code yX2_makeRoot cX2_makeRoot 1 none, Cond.methodLink RX4 171 yX2_run, Cond.methodLink RX4 174 yX2_writeChain, Cond.methodLink RL 38 yX5_begin, Cond.instanceMethod yX5_begin, Cond.selects RX5 yX5_begin yX5_begin, Cond.code yX5_begin cX5_begin 5 (some .int), Cond.fieldLink RX5 114 "TreeHashesModel" "base" "I", Cond.fieldLink RX5 104 "TreeHashesModel" "flags" "I", Cond.methodLink RX5 153 yX5_isHasher, Cond.static yX5_isHasher, Cond.code yX5_isHasher cX5_isHasher 1 (some .boolean), Cond.methodLink RX5 156 yX5_wordAt, Cond.static yX5_wordAt, Cond.code yX5_wordAt cX5_wordAt 2 (some .int), Cond.methodLink RX5 139 yX5_useKey, Cond.instanceMethod yX5_useKey, Cond.selects RX5 yX5_useKey yX5_useKey, Cond.code yX5_useKey cX5_useKey 3 none]
def wsL_law_r13 : List Cond := [Cond.methodLink RX5 132 yX5_chunk, Cond.instanceMethod yX5_chunk, Cond.selects RX5 yX5_chunk yX5_chunk, Cond.code yX5_chunk cX5_chunk 9 none, Cond.fieldLink RX5 100 "TreeHashesModel" "number" "J", Cond.fieldLink RX5 92 "TreeHashesModel" "blockLength" "I", Cond.methodLink RX5 111 yX5_mixIn, Cond.instanceMethod yX5_mixIn, Cond.selects RX5 yX5_mixIn yX5_mixIn, Cond.code yX5_mixIn cX5_mixIn 2 none, Cond.methodLink RX5 107 yX5_mix, Cond.instanceMethod yX5_mix, Cond.selects RX5 yX5_mix yX5_mix, Cond.code yX5_mix cX5_mix 6 none, Cond.methodLink RX5 96 yX5_turn, Cond.instanceMethod yX5_turn, Cond.selects RX5 yX5_turn yX5_turn, Cond.code yX5_turn cX5_turn 6 none, Cond.methodLink RX5 88 yX5_turned, Cond.static yX5_turned, Cond.code yX5_turned cX5_turned 2 (some .int), Cond.methodLink RL 39 yX4_take, Cond.instanceMethod yX4_take, Cond.selects RX4 yX4_take yX4_take]
def wsL_law_r14 : List Cond := [Cond.code yX4_take cX4_take 3 (some .int), Cond.constant RX4 88 (40000), Cond.methodLink RL 42 yX5_take, Cond.instanceMethod yX5_take, Cond.selects RX5 yX5_take yX5_take, Cond.code yX5_take cX5_take 4 (some .int), Cond.constant RX5 146 (40000), Cond.methodLink RL 43 yX4_fill, Cond.instanceMethod yX4_fill, Cond.selects RX4 yX4_fill yX4_fill, Cond.code yX4_fill cX4_fill 6 (some .int), Cond.methodLink RX4 96 yX1_absorbByte, Cond.methodLink RL 47 yX5_fill, Cond.instanceMethod yX5_fill, Cond.selects RX5 yX5_fill yX5_fill, Cond.code yX5_fill cX5_fill 6 (some .int), Cond.methodLink RL 48 yX4_output, Cond.instanceMethod yX4_output, Cond.selects RX4 yX4_output yX4_output, Cond.code yX4_output cX4_output 6 (some .int), Cond.constantLong RX4 99 (4611686018427387904), Cond.methodLink RX4 108 yX2_writeOutput, Cond.instanceMethod yX2_writeOutput, Cond.selects RX2 yX2_writeOutput yX2_writeOutput]
def wsL_law_r15 : List Cond := [Cond.code yX2_writeOutput cX2_writeOutput 7 none, Cond.constantLong RX2 51 (63), Cond.methodLink RX2 42 yX0_keepFirst, Cond.methodLink RX2 48 yX2_makeRoot, Cond.methodLink RX2 53 yX2_run, Cond.methodLink RX2 56 yX2_outputByte, Cond.instanceMethod yX2_outputByte, Cond.selects RX2 yX2_outputByte yX2_outputByte, Cond.code yX2_outputByte cX2_outputByte 2 (some .int), Cond.methodLink RX2 59 yX0_append, Cond.methodLink RL 52 yX5_output, Cond.instanceMethod yX5_output, Cond.selects RX5 yX5_output yX5_output, Cond.code yX5_output cX5_output 12 (some .int), Cond.constantLong RX5 163 (4611686018427387904), Cond.constantLong RX5 172 (-1), Cond.constantLong RX5 174 (64), Cond.constantLong RX5 176 (4), Cond.methodLink RX5 165 yX5_in, Cond.static yX5_in, Cond.code yX5_in cX5_in 6 (some .boolean), Cond.methodLink RX5 169 yX5_rootOf, Cond.instanceMethod yX5_rootOf, Cond.selects RX5 yX5_rootOf yX5_rootOf]
def wsL_law_r16 : List Cond := [Cond.code yX5_rootOf cX5_rootOf 3 none, Cond.fieldLink RX5 117 "TreeHashesModel" "high" "I", Cond.methodLink RX5 160 yX5_pileOf, Cond.instanceMethod yX5_pileOf, Cond.selects RX5 yX5_pileOf yX5_pileOf, Cond.code yX5_pileOf cX5_pileOf 5 none, Cond.methodLink RX5 142 yX5_closedOf, Cond.instanceMethod yX5_closedOf, Cond.selects RX5 yX5_closedOf yX5_closedOf, Cond.code yX5_closedOf cX5_closedOf 2 (some .int), Cond.methodLink RX5 126 yX5_beginPile, Cond.instanceMethod yX5_beginPile, Cond.selects RX5 yX5_beginPile yX5_beginPile, Cond.code yX5_beginPile cX5_beginPile 1 none, Cond.fieldLink RX5 120 "TreeHashesModel" "closed" "I", Cond.methodLink RX5 136 yX5_close, Cond.instanceMethod yX5_close, Cond.selects RX5 yX5_close yX5_close, Cond.code yX5_close cX5_close 2 none, Cond.methodLink RX5 123 yX5_parent, Cond.instanceMethod yX5_parent, Cond.selects RX5 yX5_parent yX5_parent, Cond.code yX5_parent cX5_parent 2 none, Cond.methodLink RL 53 yX4_copy]
def wsL_law_r17 : List Cond := [Cond.instanceMethod yX4_copy, Cond.selects RX4 yX4_copy yX4_copy, Cond.code yX4_copy cX4_copy 3 (some .int), Cond.methodLink RX4 112 yX1_becomeAs, Cond.instanceMethod yX1_becomeAs, Cond.selects RX1 yX1_becomeAs yX1_becomeAs, Cond.code yX1_becomeAs cX1_becomeAs 2 none, Cond.methodLink RL 56 yX5_copy, Cond.instanceMethod yX5_copy, Cond.selects RX5 yX5_copy yX5_copy, Cond.code yX5_copy cX5_copy 4 (some .int), Cond.methodLink RL 57 yX4_told, Cond.instanceMethod yX4_told, Cond.selects RX4 yX4_told yX4_told, Cond.code yX4_told cX4_told 3 (some .int), Cond.methodLink RX4 125 yX1_inChunk, Cond.instanceMethod yX1_inChunk, Cond.selects RX1 yX1_inChunk yX1_inChunk, Cond.code yX1_inChunk cX1_inChunk 1 (some .int), Cond.methodLink RL 60 yX5_told, Cond.instanceMethod yX5_told, Cond.selects RX5 yX5_told yX5_told, Cond.code yX5_told cX5_told 6 (some .int), Cond.methodLink RL 61 yX4_chain]
def wsL_law_r18 : List Cond := [Cond.instanceMethod yX4_chain, Cond.selects RX4 yX4_chain yX4_chain, Cond.code yX4_chain cX4_chain 4 (some .int), Cond.methodLink RX4 129 yX1_stackWord, Cond.instanceMethod yX1_stackWord, Cond.selects RX1 yX1_stackWord yX1_stackWord, Cond.code yX1_stackWord cX1_stackWord 3 (some .int), Cond.methodLink RL 64 yX5_chain, Cond.instanceMethod yX5_chain, Cond.selects RX5 yX5_chain yX5_chain, Cond.code yX5_chain cX5_chain 4 (some .int), Cond.methodLink RL 65 yX4_grow, Cond.instanceMethod yX4_grow, Cond.selects RX4 yX4_grow yX4_grow, Cond.code yX4_grow cX4_grow 5 (some .int), Cond.methodLink RL 68 yX5_grow, Cond.instanceMethod yX5_grow, Cond.selects RX5 yX5_grow yX5_grow, Cond.code yX5_grow cX5_grow 5 (some .int), Cond.fieldLink RX5 178 "TreeHashesModel" "length" "I", Cond.methodLink RL 69 yX4_spoil, Cond.instanceMethod yX4_spoil, Cond.selects RX4 yX4_spoil yX4_spoil, Cond.code yX4_spoil cX4_spoil 3 (some .int)]
def wsL_law_r19 : List Cond := [Cond.methodLink RX4 133 yX0_change, Cond.instanceMethod yX0_change, Cond.selects RX0 yX0_change yX0_change, Cond.code yX0_change cX0_change 3 (some .int), Cond.methodLink RL 72 yX5_spoil, Cond.instanceMethod yX5_spoil, Cond.selects RX5 yX5_spoil yX5_spoil, Cond.code yX5_spoil cX5_spoil 3 (some .int), Cond.methodLink RL 73 yX4_shorten, Cond.instanceMethod yX4_shorten, Cond.selects RX4 yX4_shorten yX4_shorten, Cond.code yX4_shorten cX4_shorten 2 (some .int), Cond.methodLink RL 76 yX5_shorten, Cond.instanceMethod yX5_shorten, Cond.selects RX5 yX5_shorten yX5_shorten, Cond.code yX5_shorten cX5_shorten 3 (some .int), Cond.methodLink RL 77 yX4_root, Cond.instanceMethod yX4_root, Cond.selects RX4 yX4_root yX4_root, Cond.code yX4_root cX4_root 2 (some .int), Cond.methodLink RX4 136 yX4_prepareTree, Cond.instanceMethod yX4_prepareTree, Cond.selects RX4 yX4_prepareTree yX4_prepareTree, Cond.code yX4_prepareTree cX4_prepareTree 5 none]
def wsL_law_r20 : List Cond := [Cond.methodLink RL 80 yX5_root, Cond.instanceMethod yX5_root, Cond.selects RX5 yX5_root yX5_root, Cond.code yX5_root cX5_root 3 (some .int), Cond.methodLink RX5 181 yX5_chunksOf, Cond.static yX5_chunksOf, Cond.code yX5_chunksOf cX5_chunksOf 1 (some .int), Cond.methodLink RX5 184 yX5_tree, Cond.instanceMethod yX5_tree, Cond.selects RX5 yX5_tree yX5_tree, Cond.code yX5_tree cX5_tree 7 none, Cond.methodLink RX5 129 yX5_chunkSize, Cond.static yX5_chunkSize, Cond.code yX5_chunkSize cX5_chunkSize 2 (some .int), Cond.methodLink RL 81 yX4_prove, Cond.instanceMethod yX4_prove, Cond.selects RX4 yX4_prove yX4_prove, Cond.code yX4_prove cX4_prove 5 (some .int), Cond.methodLink RX4 166 Lib.Math.min.name, Cond.static Lib.Math.min.name, Cond.code Lib.Math.min.name Lib.Math.min.code 2 (some .int), Cond.methodLink RX4 140 yX4_hasChunk, Cond.static yX4_hasChunk, Cond.code yX4_hasChunk cX4_hasChunk 2 (some .boolean)]
def wsL_law_r21 : List Cond := [Cond.methodLink RX4 150 yX4_chunksOf, Cond.static yX4_chunksOf, Cond.code yX4_chunksOf cX4_chunksOf 1 (some .int), Cond.methodLink RX4 144 yX4_chunkLength, Cond.static yX4_chunkLength, Cond.code yX4_chunkLength cX4_chunkLength 2 (some .int), Cond.methodLink RX4 147 yX0_appendFrom, Cond.instanceMethod yX0_appendFrom, Cond.selects RX0 yX0_appendFrom yX0_appendFrom, Cond.code yX0_appendFrom cX0_appendFrom 5 none, Cond.methodLink RX0 25 yX0_append, Cond.methodLink RX4 153 yX3_lead, Cond.instanceMethod yX3_lead, Cond.selects RX3 yX3_lead yX3_lead, Cond.code yX3_lead cX3_lead 6 none, Cond.fieldLink RX3 16 "TreeHashes$Way" "levels" "I", Cond.methodLink RX3 20 yX3_leftOf, Cond.static yX3_leftOf, Cond.code yX3_leftOf cX3_leftOf 3 (some .int), Cond.methodLink RX4 178 yX0_appendChain, Cond.instanceMethod yX0_appendChain, Cond.selects RX0 yX0_appendChain yX0_appendChain, Cond.code yX0_appendChain cX0_appendChain 3 none, Cond.methodLink RL 84 yX5_prove]
def wsL_law_r22 : List Cond := [Cond.instanceMethod yX5_prove, Cond.selects RX5 yX5_prove yX5_prove, Cond.code yX5_prove cX5_prove 9 (some .int), Cond.fieldLink RX5 188 "TreeHashesModel" "proofSize" "I", Cond.methodLink RX5 191 yX5_leftOf, Cond.static yX5_leftOf, Cond.code yX5_leftOf cX5_leftOf 2 (some .int), Cond.methodLink RL 85 yX4_proof, Cond.instanceMethod yX4_proof, Cond.selects RX4 yX4_proof yX4_proof, Cond.code yX4_proof cX4_proof 2 (some .int), Cond.methodLink RL 88 yX5_proof, Cond.instanceMethod yX5_proof, Cond.selects RX5 yX5_proof yX5_proof, Cond.code yX5_proof cX5_proof 2 (some .int), Cond.methodLink RL 89 yX4_forge, Cond.instanceMethod yX4_forge, Cond.selects RX4 yX4_forge yX4_forge, Cond.code yX4_forge cX4_forge 3 (some .int), Cond.methodLink RL 92 yX5_forge, Cond.instanceMethod yX5_forge, Cond.selects RX5 yX5_forge yX5_forge, Cond.code yX5_forge cX5_forge 3 (some .int), Cond.methodLink RL 93 yX4_cut]
def wsL_law_r23 : List Cond := [Cond.instanceMethod yX4_cut, Cond.selects RX4 yX4_cut yX4_cut, Cond.code yX4_cut cX4_cut 2 (some .int), Cond.methodLink RL 96 yX5_cut, Cond.instanceMethod yX5_cut, Cond.selects RX5 yX5_cut yX5_cut, Cond.code yX5_cut cX5_cut 3 (some .int), Cond.methodLink RL 97 yX4_check, Cond.instanceMethod yX4_check, Cond.selects RX4 yX4_check yX4_check, Cond.code yX4_check cX4_check 5 (some .int), Cond.constant RX4 182 (1000000), Cond.methodLink RX4 183 yX4_climb, Cond.instanceMethod yX4_climb, Cond.selects RX4 yX4_climb yX4_climb, Cond.code yX4_climb cX4_climb 4 none, Cond.methodLink RX4 193 yX2_joinBehind, Cond.methodLink RX4 197 yX2_joinBefore, Cond.instanceMethod yX2_joinBefore, Cond.selects RX2 yX2_joinBefore yX2_joinBefore, Cond.code yX2_joinBefore cX2_joinBefore 6 none, Cond.methodLink RX4 186 yX2_rootBeginsWith, Cond.instanceMethod yX2_rootBeginsWith, Cond.selects RX2 yX2_rootBeginsWith yX2_rootBeginsWith]
def wsL_law_r24 : List Cond := [Cond.code yX2_rootBeginsWith cX2_rootBeginsWith 3 (some .boolean), Cond.methodLink RX2 63 yX0_byteAt, Cond.methodLink RL 100 yX5_check, Cond.instanceMethod yX5_check, Cond.selects RX5 yX5_check yX5_check, Cond.code yX5_check cX5_check 12 (some .int), Cond.constant RX5 194 (1000000)]
def wsL_law : List Cond := (wsL_law_r1 ++ (wsL_law_r2 ++ (wsL_law_r3 ++ (wsL_law_r4 ++ (wsL_law_r5 ++ (wsL_law_r6 ++ (wsL_law_r7 ++ (wsL_law_r8 ++ (wsL_law_r9 ++ (wsL_law_r10 ++ (wsL_law_r11 ++ (wsL_law_r12 ++ (wsL_law_r13 ++ (wsL_law_r14 ++ (wsL_law_r15 ++ (wsL_law_r16 ++ (wsL_law_r17 ++ (wsL_law_r18 ++ (wsL_law_r19 ++ (wsL_law_r20 ++ (wsL_law_r21 ++ (wsL_law_r22 ++ (wsL_law_r23 ++ wsL_law_r24))))))))))))))))))))))) ++ wsX40 ++ wsX50 ++ wsX00 ++ wsX10 ++ wsX30 ++ wsX20 ++ ([] : List Cond)
set_option maxRecDepth 20000 in
theorem wsL_law_in : ∀ w ∈ wsL_law, w ∈ lw_tbl := fun w h => (goodIn_p wsL_law [38, 41, 49, 53, 66, 72, 105, 108, 112, 116, 166, 466, 482, 206, 209, 213, 217, 572, 575, 221, 225, 580, 229, 584, 233, 237, 588, 241, 244, 250, 254, 259, 263, 268, 272, 276, 280, 284, 288, 293, 297, 303, 308, 312, 316, 320, 592, 595, 598, 602, 606, 610, 614, 618, 621, 326, 625, 331, 630, 336, 341, 349, 634, 638, 642, 646, 650, 654, 658, 662, 354, 358, 669, 362, 366, 673, 370, 374, 677, 378, 681, 382, 386, 685, 390, 689, 394, 398, 693, 696, 700, 703, 402, 414, 405, 408, 411, 418, 423, 426, 430, 707, 710, 434, 714, 438, 718, 442, 722, 446, 451, 456, 460, 726] (by decide +kernel) (by decide +kernel) w h).1
theorem inlX0 : ∀ w ∈ wsX00, w ∈ wsL_law := fun _ h => List.mem_append_left _ (List.mem_append_left _ (List.mem_append_left _ (List.mem_append_left _ (List.mem_append_right _ h))))
theorem inX0 : ∀ w ∈ wsX00, w ∈ lw_tbl := fun w h => wsL_law_in w (inlX0 w h)
theorem inlX1 : ∀ w ∈ wsX10, w ∈ wsL_law := fun _ h => List.mem_append_left _ (List.mem_append_left _ (List.mem_append_left _ (List.mem_append_right _ h)))
theorem inX1 : ∀ w ∈ wsX10, w ∈ lw_tbl := fun w h => wsL_law_in w (inlX1 w h)
theorem inlX2 : ∀ w ∈ wsX20, w ∈ wsL_law := fun _ h => List.mem_append_left _ (List.mem_append_right _ h)
theorem inX2 : ∀ w ∈ wsX20, w ∈ lw_tbl := fun w h => wsL_law_in w (inlX2 w h)
theorem inlX3 : ∀ w ∈ wsX30, w ∈ wsL_law := fun _ h => List.mem_append_left _ (List.mem_append_left _ (List.mem_append_right _ h))
theorem inX3 : ∀ w ∈ wsX30, w ∈ lw_tbl := fun w h => wsL_law_in w (inlX3 w h)
theorem inlX4 : ∀ w ∈ wsX40, w ∈ wsL_law := fun _ h => List.mem_append_left _ (List.mem_append_left _ (List.mem_append_left _ (List.mem_append_left _ (List.mem_append_left _ (List.mem_append_left _ (List.mem_append_right _ h))))))
theorem inX4 : ∀ w ∈ wsX40, w ∈ lw_tbl := fun w h => wsL_law_in w (inlX4 w h)
theorem inlX5 : ∀ w ∈ wsX50, w ∈ wsL_law := fun _ h => List.mem_append_left _ (List.mem_append_left _ (List.mem_append_left _ (List.mem_append_left _ (List.mem_append_left _ (List.mem_append_right _ h)))))
theorem inX5 : ∀ w ∈ wsX50, w ∈ lw_tbl := fun w h => wsL_law_in w (inlX5 w h)
theorem inJ9 : ∀ w ∈ wsJ90, w ∈ lw_tbl := by decide +kernel
abbrev vwCl : List vw_C := [(RX0, TX0, 2), (RX1, TX1, 13), (RX2, TX2, 8), (RX3, TX3, 3), (RX4, TX4, 7), (RX5, TX5, 28)]
end
section
theorem dX0_init_0 : decode cX0_init 0 = .ok (.aload_n 0, 1) := by decide +kernel
theorem dX0_init_1 : decode cX0_init 1 = .ok (.invokespecial 3, 3) := by decide +kernel
theorem dX0_init_4 : decode cX0_init 4 = .ok (.aload_n 0, 1) := by decide +kernel
theorem dX0_init_5 : decode cX0_init 5 = .ok (.iconst 0, 1) := by decide +kernel
theorem dX0_init_6 : decode cX0_init 6 = .ok (.iload_n 1, 1) := by decide +kernel
theorem dX0_init_7 : decode cX0_init 7 = .ok (.invokestatic 9, 3) := by decide +kernel
theorem dX0_init_10 : decode cX0_init 10 = .ok (.newarray .byte, 2) := by decide +kernel
theorem dX0_init_12 : decode cX0_init 12 = .ok (.putfield 15, 3) := by decide +kernel
theorem dX0_init_15 : decode cX0_init 15 = .ok (.return_, 1) := by decide +kernel
theorem dX0_hasRoomFor_0 : decode cX0_hasRoomFor 0 = .ok (.iload_n 1, 1) := by decide +kernel
theorem dX0_hasRoomFor_1 : decode cX0_hasRoomFor 1 = .ok (.aload_n 0, 1) := by decide +kernel
theorem dX0_hasRoomFor_2 : decode cX0_hasRoomFor 2 = .ok (.getfield 15, 3) := by decide +kernel
theorem dX0_hasRoomFor_5 : decode cX0_hasRoomFor 5 = .ok (.arraylength, 1) := by decide +kernel
theorem dX0_hasRoomFor_6 : decode cX0_hasRoomFor 6 = .ok (.aload_n 0, 1) := by decide +kernel
theorem dX0_hasRoomFor_7 : decode cX0_hasRoomFor 7 = .ok (.getfield 21, 3) := by decide +kernel
theorem dX0_hasRoomFor_10 : decode cX0_hasRoomFor 10 = .ok (.isub, 1) := by decide +kernel
theorem dX0_hasRoomFor_11 : decode cX0_hasRoomFor 11 = .ok (.if_icmp .gt 7, 3) := by decide +kernel
theorem dX0_hasRoomFor_14 : decode cX0_hasRoomFor 14 = .ok (.iconst 1, 1) := by decide +kernel
theorem dX0_hasRoomFor_15 : decode cX0_hasRoomFor 15 = .ok (.goto 4, 3) := by decide +kernel
theorem dX0_hasRoomFor_18 : decode cX0_hasRoomFor 18 = .ok (.iconst 0, 1) := by decide +kernel
theorem dX0_hasRoomFor_19 : decode cX0_hasRoomFor 19 = .ok (.ireturn, 1) := by decide +kernel
theorem dX0_byteAt_0 : decode cX0_byteAt 0 = .ok (.iload_n 1, 1) := by decide +kernel
theorem dX0_byteAt_1 : decode cX0_byteAt 1 = .ok (.ifCond .lt 24, 3) := by decide +kernel
theorem dX0_byteAt_4 : decode cX0_byteAt 4 = .ok (.iload_n 1, 1) := by decide +kernel
theorem dX0_byteAt_5 : decode cX0_byteAt 5 = .ok (.aload_n 0, 1) := by decide +kernel
theorem dX0_byteAt_6 : decode cX0_byteAt 6 = .ok (.getfield 21, 3) := by decide +kernel
theorem dX0_byteAt_9 : decode cX0_byteAt 9 = .ok (.if_icmp .ge 16, 3) := by decide +kernel
theorem dX0_byteAt_12 : decode cX0_byteAt 12 = .ok (.aload_n 0, 1) := by decide +kernel
theorem dX0_byteAt_13 : decode cX0_byteAt 13 = .ok (.getfield 15, 3) := by decide +kernel
theorem dX0_byteAt_16 : decode cX0_byteAt 16 = .ok (.iload_n 1, 1) := by decide +kernel
theorem dX0_byteAt_17 : decode cX0_byteAt 17 = .ok (.baload, 1) := by decide +kernel
theorem dX0_byteAt_18 : decode cX0_byteAt 18 = .ok (.sipush 255, 3) := by decide +kernel
theorem dX0_byteAt_21 : decode cX0_byteAt 21 = .ok (.iand, 1) := by decide +kernel
theorem dX0_byteAt_22 : decode cX0_byteAt 22 = .ok (.goto 4, 3) := by decide +kernel
theorem dX0_byteAt_25 : decode cX0_byteAt 25 = .ok (.iconst (-1), 1) := by decide +kernel
theorem dX0_byteAt_26 : decode cX0_byteAt 26 = .ok (.ireturn, 1) := by decide +kernel
theorem dX0_append_0 : decode cX0_append 0 = .ok (.aload_n 0, 1) := by decide +kernel
theorem dX0_append_1 : decode cX0_append 1 = .ok (.getfield 21, 3) := by decide +kernel
theorem dX0_append_4 : decode cX0_append 4 = .ok (.aload_n 0, 1) := by decide +kernel
theorem dX0_append_5 : decode cX0_append 5 = .ok (.getfield 15, 3) := by decide +kernel
theorem dX0_append_8 : decode cX0_append 8 = .ok (.arraylength, 1) := by decide +kernel
theorem dX0_append_9 : decode cX0_append 9 = .ok (.if_icmp .ge 24, 3) := by decide +kernel
theorem dX0_append_12 : decode cX0_append 12 = .ok (.aload_n 0, 1) := by decide +kernel
theorem dX0_append_13 : decode cX0_append 13 = .ok (.getfield 15, 3) := by decide +kernel
theorem dX0_append_16 : decode cX0_append 16 = .ok (.aload_n 0, 1) := by decide +kernel
theorem dX0_append_17 : decode cX0_append 17 = .ok (.getfield 21, 3) := by decide +kernel
theorem dX0_append_20 : decode cX0_append 20 = .ok (.iload_n 1, 1) := by decide +kernel
theorem dX0_append_21 : decode cX0_append 21 = .ok (.i2b, 1) := by decide +kernel
theorem dX0_append_22 : decode cX0_append 22 = .ok (.bastore, 1) := by decide +kernel
theorem dX0_append_23 : decode cX0_append 23 = .ok (.aload_n 0, 1) := by decide +kernel
theorem dX0_append_24 : decode cX0_append 24 = .ok (.dup, 1) := by decide +kernel
theorem dX0_append_25 : decode cX0_append 25 = .ok (.getfield 21, 3) := by decide +kernel
theorem dX0_append_28 : decode cX0_append 28 = .ok (.iconst 1, 1) := by decide +kernel
theorem dX0_append_29 : decode cX0_append 29 = .ok (.iadd, 1) := by decide +kernel
theorem dX0_append_30 : decode cX0_append 30 = .ok (.putfield 21, 3) := by decide +kernel
theorem dX0_append_33 : decode cX0_append 33 = .ok (.return_, 1) := by decide +kernel
set_option maxRecDepth 20000 in
theorem ggX0_appendChain_X0_append : GoodIn wsX0_appendChain wsX0_append := goodIn_r _ [5, 6, 7, 8, 9] (by decide +kernel) (by decide +kernel)
set_option maxRecDepth 20000 in
theorem gX0_appendChain_X0_append : GoodIn wsX0_appendChain (wsV RX0 25 RX0 yX0_append wsX0_append) := goodIn_app (goodIn_of _ (by decide +kernel)) ggX0_appendChain_X0_append
theorem dX0_appendChain_0 : decode cX0_appendChain 0 = .ok (.iconst 0, 1) := by decide +kernel
theorem dX0_appendChain_1 : decode cX0_appendChain 1 = .ok (.istore_n 2, 1) := by decide +kernel
theorem dX0_appendChain_2 : decode cX0_appendChain 2 = .ok (.iload_n 2, 1) := by decide +kernel
theorem dX0_appendChain_3 : decode cX0_appendChain 3 = .ok (.iconst 4, 1) := by decide +kernel
theorem dX0_appendChain_4 : decode cX0_appendChain 4 = .ok (.aload_n 1, 1) := by decide +kernel
theorem dX0_appendChain_5 : decode cX0_appendChain 5 = .ok (.arraylength, 1) := by decide +kernel
theorem dX0_appendChain_6 : decode cX0_appendChain 6 = .ok (.imul, 1) := by decide +kernel
theorem dX0_appendChain_7 : decode cX0_appendChain 7 = .ok (.if_icmp .ge 25, 3) := by decide +kernel
theorem dX0_appendChain_10 : decode cX0_appendChain 10 = .ok (.aload_n 0, 1) := by decide +kernel
theorem dX0_appendChain_11 : decode cX0_appendChain 11 = .ok (.aload_n 1, 1) := by decide +kernel
theorem dX0_appendChain_12 : decode cX0_appendChain 12 = .ok (.iload_n 2, 1) := by decide +kernel
theorem dX0_appendChain_13 : decode cX0_appendChain 13 = .ok (.iconst 2, 1) := by decide +kernel
theorem dX0_appendChain_14 : decode cX0_appendChain 14 = .ok (.ishr, 1) := by decide +kernel
theorem dX0_appendChain_15 : decode cX0_appendChain 15 = .ok (.iaload, 1) := by decide +kernel
theorem dX0_appendChain_16 : decode cX0_appendChain 16 = .ok (.bipush 8, 2) := by decide +kernel
theorem dX0_appendChain_18 : decode cX0_appendChain 18 = .ok (.iload_n 2, 1) := by decide +kernel
theorem dX0_appendChain_19 : decode cX0_appendChain 19 = .ok (.iconst 3, 1) := by decide +kernel
theorem dX0_appendChain_20 : decode cX0_appendChain 20 = .ok (.iand, 1) := by decide +kernel
theorem dX0_appendChain_21 : decode cX0_appendChain 21 = .ok (.imul, 1) := by decide +kernel
theorem dX0_appendChain_22 : decode cX0_appendChain 22 = .ok (.iushr, 1) := by decide +kernel
theorem dX0_appendChain_23 : decode cX0_appendChain 23 = .ok (.invokevirtual 25, 3) := by decide +kernel
theorem dX0_appendChain_26 : decode cX0_appendChain 26 = .ok (.iinc 2 1, 3) := by decide +kernel
theorem dX0_appendChain_29 : decode cX0_appendChain 29 = .ok (.goto (-27), 3) := by decide +kernel
theorem dX0_appendChain_32 : decode cX0_appendChain 32 = .ok (.return_, 1) := by decide +kernel
set_option maxRecDepth 20000 in
theorem ggX0_appendFrom_X0_byteAt : GoodIn wsX0_appendFrom wsX0_byteAt := goodIn_r _ [5, 6, 7, 12, 13] (by decide +kernel) (by decide +kernel)
set_option maxRecDepth 20000 in
theorem gX0_appendFrom_X0_byteAt : GoodIn wsX0_appendFrom (wsV RX0 29 RX0 yX0_byteAt wsX0_byteAt) := goodIn_app (goodIn_of _ (by decide +kernel)) ggX0_appendFrom_X0_byteAt
set_option maxRecDepth 20000 in
theorem ggX0_appendFrom_X0_append : GoodIn wsX0_appendFrom wsX0_append := goodIn_r _ [11, 6, 7, 12, 13] (by decide +kernel) (by decide +kernel)
set_option maxRecDepth 20000 in
theorem gX0_appendFrom_X0_append : GoodIn wsX0_appendFrom (wsV RX0 25 RX0 yX0_append wsX0_append) := goodIn_app (goodIn_of _ (by decide +kernel)) ggX0_appendFrom_X0_append
theorem dX0_appendFrom_0 : decode cX0_appendFrom 0 = .ok (.iconst 0, 1) := by decide +kernel
theorem dX0_appendFrom_1 : decode cX0_appendFrom 1 = .ok (.istore 4, 2) := by decide +kernel
theorem dX0_appendFrom_3 : decode cX0_appendFrom 3 = .ok (.iload 4, 2) := by decide +kernel
theorem dX0_appendFrom_5 : decode cX0_appendFrom 5 = .ok (.iload_n 3, 1) := by decide +kernel
theorem dX0_appendFrom_6 : decode cX0_appendFrom 6 = .ok (.if_icmp .ge 21, 3) := by decide +kernel
theorem dX0_appendFrom_9 : decode cX0_appendFrom 9 = .ok (.aload_n 0, 1) := by decide +kernel
theorem dX0_appendFrom_10 : decode cX0_appendFrom 10 = .ok (.aload_n 1, 1) := by decide +kernel
theorem dX0_appendFrom_11 : decode cX0_appendFrom 11 = .ok (.iload_n 2, 1) := by decide +kernel
theorem dX0_appendFrom_12 : decode cX0_appendFrom 12 = .ok (.iload 4, 2) := by decide +kernel
theorem dX0_appendFrom_14 : decode cX0_appendFrom 14 = .ok (.iadd, 1) := by decide +kernel
theorem dX0_appendFrom_15 : decode cX0_appendFrom 15 = .ok (.invokevirtual 29, 3) := by decide +kernel
theorem dX0_appendFrom_18 : decode cX0_appendFrom 18 = .ok (.invokevirtual 25, 3) := by decide +kernel
theorem dX0_appendFrom_21 : decode cX0_appendFrom 21 = .ok (.iinc 4 1, 3) := by decide +kernel
theorem dX0_appendFrom_24 : decode cX0_appendFrom 24 = .ok (.goto (-21), 3) := by decide +kernel
theorem dX0_appendFrom_27 : decode cX0_appendFrom 27 = .ok (.return_, 1) := by decide +kernel
theorem dX0_keepFirst_0 : decode cX0_keepFirst 0 = .ok (.iload_n 1, 1) := by decide +kernel
theorem dX0_keepFirst_1 : decode cX0_keepFirst 1 = .ok (.ifCond .lt 11, 3) := by decide +kernel
theorem dX0_keepFirst_4 : decode cX0_keepFirst 4 = .ok (.iload_n 1, 1) := by decide +kernel
theorem dX0_keepFirst_5 : decode cX0_keepFirst 5 = .ok (.aload_n 0, 1) := by decide +kernel
theorem dX0_keepFirst_6 : decode cX0_keepFirst 6 = .ok (.getfield 21, 3) := by decide +kernel
theorem dX0_keepFirst_9 : decode cX0_keepFirst 9 = .ok (.if_icmp .le 6, 3) := by decide +kernel
theorem dX0_keepFirst_12 : decode cX0_keepFirst 12 = .ok (.bipush (-2), 2) := by decide +kernel
theorem dX0_keepFirst_14 : decode cX0_keepFirst 14 = .ok (.ireturn, 1) := by decide +kernel
theorem dX0_keepFirst_15 : decode cX0_keepFirst 15 = .ok (.aload_n 0, 1) := by decide +kernel
theorem dX0_keepFirst_16 : decode cX0_keepFirst 16 = .ok (.getfield 21, 3) := by decide +kernel
theorem dX0_keepFirst_19 : decode cX0_keepFirst 19 = .ok (.iload_n 1, 1) := by decide +kernel
theorem dX0_keepFirst_20 : decode cX0_keepFirst 20 = .ok (.isub, 1) := by decide +kernel
theorem dX0_keepFirst_21 : decode cX0_keepFirst 21 = .ok (.istore_n 2, 1) := by decide +kernel
theorem dX0_keepFirst_22 : decode cX0_keepFirst 22 = .ok (.aload_n 0, 1) := by decide +kernel
theorem dX0_keepFirst_23 : decode cX0_keepFirst 23 = .ok (.iload_n 1, 1) := by decide +kernel
theorem dX0_keepFirst_24 : decode cX0_keepFirst 24 = .ok (.putfield 21, 3) := by decide +kernel
theorem dX0_keepFirst_27 : decode cX0_keepFirst 27 = .ok (.iload_n 2, 1) := by decide +kernel
theorem dX0_keepFirst_28 : decode cX0_keepFirst 28 = .ok (.ireturn, 1) := by decide +kernel
theorem dX0_change_0 : decode cX0_change 0 = .ok (.iload_n 1, 1) := by decide +kernel
theorem dX0_change_1 : decode cX0_change 1 = .ok (.ifCond .lt 22, 3) := by decide +kernel
theorem dX0_change_4 : decode cX0_change 4 = .ok (.iload_n 1, 1) := by decide +kernel
theorem dX0_change_5 : decode cX0_change 5 = .ok (.aload_n 0, 1) := by decide +kernel
theorem dX0_change_6 : decode cX0_change 6 = .ok (.getfield 21, 3) := by decide +kernel
theorem dX0_change_9 : decode cX0_change 9 = .ok (.if_icmp .ge 14, 3) := by decide +kernel
theorem dX0_change_12 : decode cX0_change 12 = .ok (.iload_n 2, 1) := by decide +kernel
theorem dX0_change_13 : decode cX0_change 13 = .ok (.ifCond .lt 10, 3) := by decide +kernel
theorem dX0_change_16 : decode cX0_change 16 = .ok (.iload_n 2, 1) := by decide +kernel
theorem dX0_change_17 : decode cX0_change 17 = .ok (.sipush 255, 3) := by decide +kernel
theorem dX0_change_20 : decode cX0_change 20 = .ok (.if_icmp .le 6, 3) := by decide +kernel
theorem dX0_change_23 : decode cX0_change 23 = .ok (.bipush (-2), 2) := by decide +kernel
theorem dX0_change_25 : decode cX0_change 25 = .ok (.ireturn, 1) := by decide +kernel
theorem dX0_change_26 : decode cX0_change 26 = .ok (.aload_n 0, 1) := by decide +kernel
theorem dX0_change_27 : decode cX0_change 27 = .ok (.getfield 15, 3) := by decide +kernel
theorem dX0_change_30 : decode cX0_change 30 = .ok (.iload_n 1, 1) := by decide +kernel
theorem dX0_change_31 : decode cX0_change 31 = .ok (.aload_n 0, 1) := by decide +kernel
theorem dX0_change_32 : decode cX0_change 32 = .ok (.getfield 15, 3) := by decide +kernel
theorem dX0_change_35 : decode cX0_change 35 = .ok (.iload_n 1, 1) := by decide +kernel
theorem dX0_change_36 : decode cX0_change 36 = .ok (.baload, 1) := by decide +kernel
theorem dX0_change_37 : decode cX0_change 37 = .ok (.iload_n 2, 1) := by decide +kernel
theorem dX0_change_38 : decode cX0_change 38 = .ok (.ixor, 1) := by decide +kernel
theorem dX0_change_39 : decode cX0_change 39 = .ok (.i2b, 1) := by decide +kernel
theorem dX0_change_40 : decode cX0_change 40 = .ok (.bastore, 1) := by decide +kernel
theorem dX0_change_41 : decode cX0_change 41 = .ok (.aload_n 0, 1) := by decide +kernel
theorem dX0_change_42 : decode cX0_change 42 = .ok (.getfield 15, 3) := by decide +kernel
theorem dX0_change_45 : decode cX0_change 45 = .ok (.iload_n 1, 1) := by decide +kernel
theorem dX0_change_46 : decode cX0_change 46 = .ok (.baload, 1) := by decide +kernel
theorem dX0_change_47 : decode cX0_change 47 = .ok (.sipush 255, 3) := by decide +kernel
theorem dX0_change_50 : decode cX0_change 50 = .ok (.iand, 1) := by decide +kernel
theorem dX0_change_51 : decode cX0_change 51 = .ok (.ireturn, 1) := by decide +kernel
set_option maxRecDepth 20000 in
theorem ggX0_readChain_X0_wordAt : GoodIn wsX0_readChain wsX0_wordAt := goodIn_r _ [5, 6, 7, 8, 4, 9, 10, 11, 12, 13] (by decide +kernel) (by decide +kernel)
set_option maxRecDepth 20000 in
theorem gX0_readChain_X0_wordAt : GoodIn wsX0_readChain (wsV RX0 33 RX0 yX0_wordAt wsX0_wordAt) := goodIn_app (goodIn_of _ (by decide +kernel)) ggX0_readChain_X0_wordAt
theorem dX0_readChain_0 : decode cX0_readChain 0 = .ok (.iconst 0, 1) := by decide +kernel
theorem dX0_readChain_1 : decode cX0_readChain 1 = .ok (.istore_n 3, 1) := by decide +kernel
theorem dX0_readChain_2 : decode cX0_readChain 2 = .ok (.iload_n 3, 1) := by decide +kernel
theorem dX0_readChain_3 : decode cX0_readChain 3 = .ok (.bipush 8, 2) := by decide +kernel
theorem dX0_readChain_5 : decode cX0_readChain 5 = .ok (.if_icmp .ge 27, 3) := by decide +kernel
theorem dX0_readChain_8 : decode cX0_readChain 8 = .ok (.iload_n 3, 1) := by decide +kernel
theorem dX0_readChain_9 : decode cX0_readChain 9 = .ok (.aload_n 2, 1) := by decide +kernel
theorem dX0_readChain_10 : decode cX0_readChain 10 = .ok (.arraylength, 1) := by decide +kernel
theorem dX0_readChain_11 : decode cX0_readChain 11 = .ok (.if_icmp .ge 21, 3) := by decide +kernel
theorem dX0_readChain_14 : decode cX0_readChain 14 = .ok (.aload_n 2, 1) := by decide +kernel
theorem dX0_readChain_15 : decode cX0_readChain 15 = .ok (.iload_n 3, 1) := by decide +kernel
theorem dX0_readChain_16 : decode cX0_readChain 16 = .ok (.aload_n 0, 1) := by decide +kernel
theorem dX0_readChain_17 : decode cX0_readChain 17 = .ok (.iload_n 1, 1) := by decide +kernel
theorem dX0_readChain_18 : decode cX0_readChain 18 = .ok (.iconst 4, 1) := by decide +kernel
theorem dX0_readChain_19 : decode cX0_readChain 19 = .ok (.iload_n 3, 1) := by decide +kernel
theorem dX0_readChain_20 : decode cX0_readChain 20 = .ok (.imul, 1) := by decide +kernel
theorem dX0_readChain_21 : decode cX0_readChain 21 = .ok (.iadd, 1) := by decide +kernel
theorem dX0_readChain_22 : decode cX0_readChain 22 = .ok (.invokevirtual 33, 3) := by decide +kernel
theorem dX0_readChain_25 : decode cX0_readChain 25 = .ok (.iastore, 1) := by decide +kernel
theorem dX0_readChain_26 : decode cX0_readChain 26 = .ok (.iinc 3 1, 3) := by decide +kernel
theorem dX0_readChain_29 : decode cX0_readChain 29 = .ok (.goto (-27), 3) := by decide +kernel
theorem dX0_readChain_32 : decode cX0_readChain 32 = .ok (.return_, 1) := by decide +kernel
set_option maxRecDepth 20000 in
theorem ggX0_wordAt_X0_byteAt : GoodIn wsX0_wordAt wsX0_byteAt := goodIn_r _ [5, 6, 7, 8, 9] (by decide +kernel) (by decide +kernel)
set_option maxRecDepth 20000 in
theorem gX0_wordAt_X0_byteAt : GoodIn wsX0_wordAt (wsV RX0 29 RX0 yX0_byteAt wsX0_byteAt) := goodIn_app (goodIn_of _ (by decide +kernel)) ggX0_wordAt_X0_byteAt
theorem dX0_wordAt_0 : decode cX0_wordAt 0 = .ok (.aload_n 0, 1) := by decide +kernel
theorem dX0_wordAt_1 : decode cX0_wordAt 1 = .ok (.iload_n 1, 1) := by decide +kernel
theorem dX0_wordAt_2 : decode cX0_wordAt 2 = .ok (.invokevirtual 29, 3) := by decide +kernel
theorem dX0_wordAt_5 : decode cX0_wordAt 5 = .ok (.aload_n 0, 1) := by decide +kernel
theorem dX0_wordAt_6 : decode cX0_wordAt 6 = .ok (.iload_n 1, 1) := by decide +kernel
theorem dX0_wordAt_7 : decode cX0_wordAt 7 = .ok (.iconst 1, 1) := by decide +kernel
theorem dX0_wordAt_8 : decode cX0_wordAt 8 = .ok (.iadd, 1) := by decide +kernel
theorem dX0_wordAt_9 : decode cX0_wordAt 9 = .ok (.invokevirtual 29, 3) := by decide +kernel
theorem dX0_wordAt_12 : decode cX0_wordAt 12 = .ok (.bipush 8, 2) := by decide +kernel
theorem dX0_wordAt_14 : decode cX0_wordAt 14 = .ok (.ishl, 1) := by decide +kernel
theorem dX0_wordAt_15 : decode cX0_wordAt 15 = .ok (.ior, 1) := by decide +kernel
theorem dX0_wordAt_16 : decode cX0_wordAt 16 = .ok (.aload_n 0, 1) := by decide +kernel
theorem dX0_wordAt_17 : decode cX0_wordAt 17 = .ok (.iload_n 1, 1) := by decide +kernel
theorem dX0_wordAt_18 : decode cX0_wordAt 18 = .ok (.iconst 2, 1) := by decide +kernel
theorem dX0_wordAt_19 : decode cX0_wordAt 19 = .ok (.iadd, 1) := by decide +kernel
theorem dX0_wordAt_20 : decode cX0_wordAt 20 = .ok (.invokevirtual 29, 3) := by decide +kernel
theorem dX0_wordAt_23 : decode cX0_wordAt 23 = .ok (.bipush 16, 2) := by decide +kernel
theorem dX0_wordAt_25 : decode cX0_wordAt 25 = .ok (.ishl, 1) := by decide +kernel
theorem dX0_wordAt_26 : decode cX0_wordAt 26 = .ok (.ior, 1) := by decide +kernel
theorem dX0_wordAt_27 : decode cX0_wordAt 27 = .ok (.aload_n 0, 1) := by decide +kernel
theorem dX0_wordAt_28 : decode cX0_wordAt 28 = .ok (.iload_n 1, 1) := by decide +kernel
theorem dX0_wordAt_29 : decode cX0_wordAt 29 = .ok (.iconst 3, 1) := by decide +kernel
theorem dX0_wordAt_30 : decode cX0_wordAt 30 = .ok (.iadd, 1) := by decide +kernel
theorem dX0_wordAt_31 : decode cX0_wordAt 31 = .ok (.invokevirtual 29, 3) := by decide +kernel
theorem dX0_wordAt_34 : decode cX0_wordAt 34 = .ok (.bipush 24, 2) := by decide +kernel
theorem dX0_wordAt_36 : decode cX0_wordAt 36 = .ok (.ishl, 1) := by decide +kernel
theorem dX0_wordAt_37 : decode cX0_wordAt 37 = .ok (.ior, 1) := by decide +kernel
theorem dX0_wordAt_38 : decode cX0_wordAt 38 = .ok (.ireturn, 1) := by decide +kernel
set_option maxRecDepth 20000 in
theorem ggX1_init_X2_init : GoodIn wsX1_init wsX2_init := goodIn_r _ [15, 16, 2, 3, 8, 17, 18, 19, 20, 21, 46, 47, 48, 49, 50, 51, 52, 53] (by decide +kernel) (by decide +kernel)
set_option maxRecDepth 20000 in
theorem gX1_init_X2_init_n13 : GoodIn wsX1_init (wsX2_init) := ggX1_init_X2_init
set_option maxRecDepth 20000 in
theorem ggX1_init_X1_restart : GoodIn wsX1_init wsX1_restart := goodIn_r _ [26, 9, 27, 28, 29, 30, 31, 32, 33, 34, 25, 35, 36, 37, 38, 39, 11, 40, 41, 42, 43, 44, 12, 45, 54, 55, 56, 57, 58, 59, 60, 61, 62, 63, 64, 65, 66] (by decide +kernel) (by decide +kernel)
set_option maxRecDepth 20000 in
theorem gX1_init_X1_restart : GoodIn wsX1_init (wsV RX1 34 RX1 yX1_restart wsX1_restart) := goodIn_app (goodIn_of _ (by decide +kernel)) ggX1_init_X1_restart
theorem dX1_init_0 : decode cX1_init 0 = .ok (.aload_n 0, 1) := by decide +kernel
theorem dX1_init_1 : decode cX1_init 1 = .ok (.invokespecial 5, 3) := by decide +kernel
theorem dX1_init_4 : decode cX1_init 4 = .ok (.aload_n 0, 1) := by decide +kernel
theorem dX1_init_5 : decode cX1_init 5 = .ok (.new 11, 3) := by decide +kernel
theorem dX1_init_8 : decode cX1_init 8 = .ok (.dup, 1) := by decide +kernel
theorem dX1_init_9 : decode cX1_init 9 = .ok (.invokespecial 13, 3) := by decide +kernel
theorem dX1_init_12 : decode cX1_init 12 = .ok (.putfield 14, 3) := by decide +kernel
theorem dX1_init_15 : decode cX1_init 15 = .ok (.aload_n 0, 1) := by decide +kernel
theorem dX1_init_16 : decode cX1_init 16 = .ok (.bipush 8, 2) := by decide +kernel
theorem dX1_init_18 : decode cX1_init 18 = .ok (.newarray .int, 2) := by decide +kernel
theorem dX1_init_20 : decode cX1_init 20 = .ok (.putfield 18, 3) := by decide +kernel
theorem dX1_init_23 : decode cX1_init 23 = .ok (.aload_n 0, 1) := by decide +kernel
theorem dX1_init_24 : decode cX1_init 24 = .ok (.bipush 40, 2) := by decide +kernel
theorem dX1_init_26 : decode cX1_init 26 = .ok (.newarray .int, 2) := by decide +kernel
theorem dX1_init_28 : decode cX1_init 28 = .ok (.putfield 22, 3) := by decide +kernel
theorem dX1_init_31 : decode cX1_init 31 = .ok (.aload_n 0, 1) := by decide +kernel
theorem dX1_init_32 : decode cX1_init 32 = .ok (.bipush 8, 2) := by decide +kernel
theorem dX1_init_34 : decode cX1_init 34 = .ok (.newarray .int, 2) := by decide +kernel
theorem dX1_init_36 : decode cX1_init 36 = .ok (.putfield 25, 3) := by decide +kernel
theorem dX1_init_39 : decode cX1_init 39 = .ok (.aload_n 0, 1) := by decide +kernel
theorem dX1_init_40 : decode cX1_init 40 = .ok (.bipush 16, 2) := by decide +kernel
theorem dX1_init_42 : decode cX1_init 42 = .ok (.newarray .int, 2) := by decide +kernel
theorem dX1_init_44 : decode cX1_init 44 = .ok (.putfield 28, 3) := by decide +kernel
theorem dX1_init_47 : decode cX1_init 47 = .ok (.aload_n 0, 1) := by decide +kernel
theorem dX1_init_48 : decode cX1_init 48 = .ok (.iconst 0, 1) := by decide +kernel
theorem dX1_init_49 : decode cX1_init 49 = .ok (.iconst 0, 1) := by decide +kernel
theorem dX1_init_50 : decode cX1_init 50 = .ok (.getstatic 31, 3) := by decide +kernel
theorem dX1_init_53 : decode cX1_init 53 = .ok (.iconst 0, 1) := by decide +kernel
theorem dX1_init_54 : decode cX1_init 54 = .ok (.invokevirtual 34, 3) := by decide +kernel
theorem dX1_init_57 : decode cX1_init 57 = .ok (.return_, 1) := by decide +kernel
set_option maxRecDepth 20000 in
theorem ggX1_restart_X1_copyWords : GoodIn wsX1_restart wsX1_copyWords := goodIn_r _ [11] (by decide +kernel) (by decide +kernel)
set_option maxRecDepth 20000 in
theorem gX1_restart_X1_copyWords : GoodIn wsX1_restart (va_wsS RX1 38 yX1_copyWords wsX1_copyWords) := goodIn_app (goodIn_of _ (by decide +kernel)) ggX1_restart_X1_copyWords
set_option maxRecDepth 20000 in
theorem ggX1_restart_X1_startChunk : GoodIn wsX1_restart wsX1_startChunk := goodIn_r _ [15, 1, 16, 17, 8, 9, 10, 11, 18, 19, 20, 21, 22, 23, 24, 25, 26, 27, 28, 29, 30, 31, 32, 33, 34, 35, 36] (by decide +kernel) (by decide +kernel)
set_option maxRecDepth 20000 in
theorem gX1_restart_X1_startChunk : GoodIn wsX1_restart (wsV RX1 61 RX1 yX1_startChunk wsX1_startChunk) := goodIn_app (goodIn_of _ (by decide +kernel)) ggX1_restart_X1_startChunk
theorem dX1_restart_0 : decode cX1_restart 0 = .ok (.aload_n 3, 1) := by decide +kernel
theorem dX1_restart_1 : decode cX1_restart 1 = .ok (.aload_n 0, 1) := by decide +kernel
theorem dX1_restart_2 : decode cX1_restart 2 = .ok (.getfield 18, 3) := by decide +kernel
theorem dX1_restart_5 : decode cX1_restart 5 = .ok (.invokestatic 38, 3) := by decide +kernel
theorem dX1_restart_8 : decode cX1_restart 8 = .ok (.aload_n 0, 1) := by decide +kernel
theorem dX1_restart_9 : decode cX1_restart 9 = .ok (.iload_n 1, 1) := by decide +kernel
theorem dX1_restart_10 : decode cX1_restart 10 = .ok (.putfield 42, 3) := by decide +kernel
theorem dX1_restart_13 : decode cX1_restart 13 = .ok (.aload_n 0, 1) := by decide +kernel
theorem dX1_restart_14 : decode cX1_restart 14 = .ok (.iload_n 2, 1) := by decide +kernel
theorem dX1_restart_15 : decode cX1_restart 15 = .ok (.putfield 46, 3) := by decide +kernel
theorem dX1_restart_18 : decode cX1_restart 18 = .ok (.aload_n 0, 1) := by decide +kernel
theorem dX1_restart_19 : decode cX1_restart 19 = .ok (.iload 4, 2) := by decide +kernel
theorem dX1_restart_21 : decode cX1_restart 21 = .ok (.putfield 49, 3) := by decide +kernel
theorem dX1_restart_24 : decode cX1_restart 24 = .ok (.aload_n 0, 1) := by decide +kernel
theorem dX1_restart_25 : decode cX1_restart 25 = .ok (.iconst 0, 1) := by decide +kernel
theorem dX1_restart_26 : decode cX1_restart 26 = .ok (.putfield 52, 3) := by decide +kernel
theorem dX1_restart_29 : decode cX1_restart 29 = .ok (.aload_n 0, 1) := by decide +kernel
theorem dX1_restart_30 : decode cX1_restart 30 = .ok (.iconst 0, 1) := by decide +kernel
theorem dX1_restart_31 : decode cX1_restart 31 = .ok (.putfield 55, 3) := by decide +kernel
theorem dX1_restart_34 : decode cX1_restart 34 = .ok (.aload_n 0, 1) := by decide +kernel
theorem dX1_restart_35 : decode cX1_restart 35 = .ok (.iconst 0, 1) := by decide +kernel
theorem dX1_restart_36 : decode cX1_restart 36 = .ok (.putfield 58, 3) := by decide +kernel
theorem dX1_restart_39 : decode cX1_restart 39 = .ok (.aload_n 0, 1) := by decide +kernel
theorem dX1_restart_40 : decode cX1_restart 40 = .ok (.invokevirtual 61, 3) := by decide +kernel
theorem dX1_restart_43 : decode cX1_restart 43 = .ok (.return_, 1) := by decide +kernel
set_option maxRecDepth 20000 in
theorem ggX1_becomeAs_X1_copyWords : GoodIn wsX1_becomeAs wsX1_copyWords := goodIn_r _ [16] (by decide +kernel) (by decide +kernel)
set_option maxRecDepth 20000 in
theorem gX1_becomeAs_X1_copyWords : GoodIn wsX1_becomeAs (va_wsS RX1 38 yX1_copyWords wsX1_copyWords) := goodIn_app (goodIn_of _ (by decide +kernel)) ggX1_becomeAs_X1_copyWords
theorem dX1_becomeAs_0 : decode cX1_becomeAs 0 = .ok (.aload_n 1, 1) := by decide +kernel
theorem dX1_becomeAs_1 : decode cX1_becomeAs 1 = .ok (.getfield 18, 3) := by decide +kernel
theorem dX1_becomeAs_4 : decode cX1_becomeAs 4 = .ok (.aload_n 0, 1) := by decide +kernel
theorem dX1_becomeAs_5 : decode cX1_becomeAs 5 = .ok (.getfield 18, 3) := by decide +kernel
theorem dX1_becomeAs_8 : decode cX1_becomeAs 8 = .ok (.invokestatic 38, 3) := by decide +kernel
theorem dX1_becomeAs_11 : decode cX1_becomeAs 11 = .ok (.aload_n 1, 1) := by decide +kernel
theorem dX1_becomeAs_12 : decode cX1_becomeAs 12 = .ok (.getfield 22, 3) := by decide +kernel
theorem dX1_becomeAs_15 : decode cX1_becomeAs 15 = .ok (.aload_n 0, 1) := by decide +kernel
theorem dX1_becomeAs_16 : decode cX1_becomeAs 16 = .ok (.getfield 22, 3) := by decide +kernel
theorem dX1_becomeAs_19 : decode cX1_becomeAs 19 = .ok (.invokestatic 38, 3) := by decide +kernel
theorem dX1_becomeAs_22 : decode cX1_becomeAs 22 = .ok (.aload_n 1, 1) := by decide +kernel
theorem dX1_becomeAs_23 : decode cX1_becomeAs 23 = .ok (.getfield 25, 3) := by decide +kernel
theorem dX1_becomeAs_26 : decode cX1_becomeAs 26 = .ok (.aload_n 0, 1) := by decide +kernel
theorem dX1_becomeAs_27 : decode cX1_becomeAs 27 = .ok (.getfield 25, 3) := by decide +kernel
theorem dX1_becomeAs_30 : decode cX1_becomeAs 30 = .ok (.invokestatic 38, 3) := by decide +kernel
theorem dX1_becomeAs_33 : decode cX1_becomeAs 33 = .ok (.aload_n 1, 1) := by decide +kernel
theorem dX1_becomeAs_34 : decode cX1_becomeAs 34 = .ok (.getfield 28, 3) := by decide +kernel
theorem dX1_becomeAs_37 : decode cX1_becomeAs 37 = .ok (.aload_n 0, 1) := by decide +kernel
theorem dX1_becomeAs_38 : decode cX1_becomeAs 38 = .ok (.getfield 28, 3) := by decide +kernel
theorem dX1_becomeAs_41 : decode cX1_becomeAs 41 = .ok (.invokestatic 38, 3) := by decide +kernel
theorem dX1_becomeAs_44 : decode cX1_becomeAs 44 = .ok (.aload_n 0, 1) := by decide +kernel
theorem dX1_becomeAs_45 : decode cX1_becomeAs 45 = .ok (.aload_n 1, 1) := by decide +kernel
theorem dX1_becomeAs_46 : decode cX1_becomeAs 46 = .ok (.getfield 42, 3) := by decide +kernel
theorem dX1_becomeAs_49 : decode cX1_becomeAs 49 = .ok (.putfield 42, 3) := by decide +kernel
theorem dX1_becomeAs_52 : decode cX1_becomeAs 52 = .ok (.aload_n 0, 1) := by decide +kernel
theorem dX1_becomeAs_53 : decode cX1_becomeAs 53 = .ok (.aload_n 1, 1) := by decide +kernel
theorem dX1_becomeAs_54 : decode cX1_becomeAs 54 = .ok (.getfield 46, 3) := by decide +kernel
theorem dX1_becomeAs_57 : decode cX1_becomeAs 57 = .ok (.putfield 46, 3) := by decide +kernel
theorem dX1_becomeAs_60 : decode cX1_becomeAs 60 = .ok (.aload_n 0, 1) := by decide +kernel
theorem dX1_becomeAs_61 : decode cX1_becomeAs 61 = .ok (.aload_n 1, 1) := by decide +kernel
theorem dX1_becomeAs_62 : decode cX1_becomeAs 62 = .ok (.getfield 49, 3) := by decide +kernel
theorem dX1_becomeAs_65 : decode cX1_becomeAs 65 = .ok (.putfield 49, 3) := by decide +kernel
theorem dX1_becomeAs_68 : decode cX1_becomeAs 68 = .ok (.aload_n 0, 1) := by decide +kernel
theorem dX1_becomeAs_69 : decode cX1_becomeAs 69 = .ok (.aload_n 1, 1) := by decide +kernel
theorem dX1_becomeAs_70 : decode cX1_becomeAs 70 = .ok (.getfield 52, 3) := by decide +kernel
theorem dX1_becomeAs_73 : decode cX1_becomeAs 73 = .ok (.putfield 52, 3) := by decide +kernel
theorem dX1_becomeAs_76 : decode cX1_becomeAs 76 = .ok (.aload_n 0, 1) := by decide +kernel
theorem dX1_becomeAs_77 : decode cX1_becomeAs 77 = .ok (.aload_n 1, 1) := by decide +kernel
theorem dX1_becomeAs_78 : decode cX1_becomeAs 78 = .ok (.getfield 55, 3) := by decide +kernel
theorem dX1_becomeAs_81 : decode cX1_becomeAs 81 = .ok (.putfield 55, 3) := by decide +kernel
theorem dX1_becomeAs_84 : decode cX1_becomeAs 84 = .ok (.aload_n 0, 1) := by decide +kernel
theorem dX1_becomeAs_85 : decode cX1_becomeAs 85 = .ok (.aload_n 1, 1) := by decide +kernel
theorem dX1_becomeAs_86 : decode cX1_becomeAs 86 = .ok (.getfield 58, 3) := by decide +kernel
theorem dX1_becomeAs_89 : decode cX1_becomeAs 89 = .ok (.putfield 58, 3) := by decide +kernel
theorem dX1_becomeAs_92 : decode cX1_becomeAs 92 = .ok (.aload_n 0, 1) := by decide +kernel
theorem dX1_becomeAs_93 : decode cX1_becomeAs 93 = .ok (.aload_n 1, 1) := by decide +kernel
theorem dX1_becomeAs_94 : decode cX1_becomeAs 94 = .ok (.getfield 64, 3) := by decide +kernel
theorem dX1_becomeAs_97 : decode cX1_becomeAs 97 = .ok (.putfield 64, 3) := by decide +kernel
theorem dX1_becomeAs_100 : decode cX1_becomeAs 100 = .ok (.aload_n 0, 1) := by decide +kernel
theorem dX1_becomeAs_101 : decode cX1_becomeAs 101 = .ok (.aload_n 1, 1) := by decide +kernel
theorem dX1_becomeAs_102 : decode cX1_becomeAs 102 = .ok (.getfield 67, 3) := by decide +kernel
theorem dX1_becomeAs_105 : decode cX1_becomeAs 105 = .ok (.putfield 67, 3) := by decide +kernel
theorem dX1_becomeAs_108 : decode cX1_becomeAs 108 = .ok (.return_, 1) := by decide +kernel
set_option maxRecDepth 20000 in
theorem ggX1_absorb_X0_byteAt : GoodIn wsX1_absorb wsX0_byteAt := goodIn_r _ [5, 6, 7, 88, 89] (by decide +kernel) (by decide +kernel)
set_option maxRecDepth 20000 in
theorem gX1_absorb_X0_byteAt : GoodIn wsX1_absorb (wsV RX1 70 RX0 yX0_byteAt wsX0_byteAt) := goodIn_app (goodIn_of _ (by decide +kernel)) ggX1_absorb_X0_byteAt
set_option maxRecDepth 20000 in
theorem ggX1_absorb_X1_absorbByte : GoodIn wsX1_absorb wsX1_absorbByte := goodIn_r _ [12, 13, 14, 15, 16, 17, 18, 19, 11, 20, 21, 22, 23, 24, 25, 26, 27, 28, 29, 30, 31, 32, 33, 34, 35, 36, 37, 38, 39, 40, 41, 42, 43, 44, 45, 46, 47, 48, 49, 50, 51, 52, 53, 54, 55, 56, 57, 58, 59, 60, 61, 62, 63, 64, 65, 66, 67, 68, 69, 70, 71, 72, 73, 74, 75, 76, 77, 78, 79, 80, 81, 82, 83, 84, 85, 86, 87, 90, 91, 92, 93, 94, 95, 96, 97, 98, 99, 100, 101, 102, 103, 104, 105, 106, 107, 108, 109, 110] (by decide +kernel) (by decide +kernel)
set_option maxRecDepth 20000 in
theorem gX1_absorb_X1_absorbByte : GoodIn wsX1_absorb (wsV RX1 76 RX1 yX1_absorbByte wsX1_absorbByte) := goodIn_app (goodIn_of _ (by decide +kernel)) ggX1_absorb_X1_absorbByte
theorem dX1_absorb_0 : decode cX1_absorb 0 = .ok (.iconst 0, 1) := by decide +kernel
theorem dX1_absorb_1 : decode cX1_absorb 1 = .ok (.istore 4, 2) := by decide +kernel
theorem dX1_absorb_3 : decode cX1_absorb 3 = .ok (.iload 4, 2) := by decide +kernel
theorem dX1_absorb_5 : decode cX1_absorb 5 = .ok (.iload_n 3, 1) := by decide +kernel
theorem dX1_absorb_6 : decode cX1_absorb 6 = .ok (.if_icmp .ge 21, 3) := by decide +kernel
theorem dX1_absorb_9 : decode cX1_absorb 9 = .ok (.aload_n 0, 1) := by decide +kernel
theorem dX1_absorb_10 : decode cX1_absorb 10 = .ok (.aload_n 1, 1) := by decide +kernel
theorem dX1_absorb_11 : decode cX1_absorb 11 = .ok (.iload_n 2, 1) := by decide +kernel
theorem dX1_absorb_12 : decode cX1_absorb 12 = .ok (.iload 4, 2) := by decide +kernel
theorem dX1_absorb_14 : decode cX1_absorb 14 = .ok (.iadd, 1) := by decide +kernel
theorem dX1_absorb_15 : decode cX1_absorb 15 = .ok (.invokevirtual 70, 3) := by decide +kernel
theorem dX1_absorb_18 : decode cX1_absorb 18 = .ok (.invokevirtual 76, 3) := by decide +kernel
theorem dX1_absorb_21 : decode cX1_absorb 21 = .ok (.iinc 4 1, 3) := by decide +kernel
theorem dX1_absorb_24 : decode cX1_absorb 24 = .ok (.goto (-21), 3) := by decide +kernel
theorem dX1_absorb_27 : decode cX1_absorb 27 = .ok (.return_, 1) := by decide +kernel
set_option maxRecDepth 20000 in
theorem ggX1_absorbByte_X1_closeChunk : GoodIn wsX1_absorbByte wsX1_closeChunk := goodIn_r _ [9, 10, 11, 12, 13, 14, 15, 16, 17, 18, 8, 19, 2, 20, 3, 21, 1, 22, 23, 24, 25, 26, 27, 28, 29, 30, 31, 32, 33, 34, 35, 36, 37, 38, 39, 40, 41, 42, 43, 44, 45, 46, 47, 48, 49, 50, 51, 52, 53, 54, 55, 56, 57, 58, 59, 60, 61, 62, 63, 64, 65, 66, 67, 68, 69, 70, 71, 72, 77, 78, 79, 80, 81, 82, 83, 84, 85, 86, 87, 88, 89, 90, 91, 92, 93, 94, 95, 96, 97] (by decide +kernel) (by decide +kernel)
set_option maxRecDepth 20000 in
theorem gX1_absorbByte_X1_closeChunk : GoodIn wsX1_absorbByte (wsV RX1 80 RX1 yX1_closeChunk wsX1_closeChunk) := goodIn_app (goodIn_of _ (by decide +kernel)) ggX1_absorbByte_X1_closeChunk
set_option maxRecDepth 20000 in
theorem ggX1_absorbByte_X1_closeBlock : GoodIn wsX1_absorbByte wsX1_closeBlock := goodIn_r _ [76, 10, 20, 2, 16, 17, 18, 8, 19, 3, 21, 11, 1, 15, 22, 23, 24, 25, 26, 27, 28, 29, 30, 31, 32, 33, 34, 35, 36, 37, 38, 39, 40, 41, 42, 43, 44, 45, 46, 47, 48, 49, 50, 51, 52, 58, 59, 60, 61, 69, 70, 71, 72, 77, 78, 79, 80, 81, 82, 83, 84, 85, 86, 87, 88, 89, 90, 91, 92, 93, 94, 95, 96, 97] (by decide +kernel) (by decide +kernel)
set_option maxRecDepth 20000 in
theorem gX1_absorbByte_X1_closeBlock : GoodIn wsX1_absorbByte (wsV RX1 83 RX1 yX1_closeBlock wsX1_closeBlock) := goodIn_app (goodIn_of _ (by decide +kernel)) ggX1_absorbByte_X1_closeBlock
theorem dX1_absorbByte_0 : decode cX1_absorbByte 0 = .ok (.aload_n 0, 1) := by decide +kernel
theorem dX1_absorbByte_1 : decode cX1_absorbByte 1 = .ok (.getfield 67, 3) := by decide +kernel
theorem dX1_absorbByte_4 : decode cX1_absorbByte 4 = .ok (.bipush 64, 2) := by decide +kernel
theorem dX1_absorbByte_6 : decode cX1_absorbByte 6 = .ok (.if_icmp .ne 23, 3) := by decide +kernel
theorem dX1_absorbByte_9 : decode cX1_absorbByte 9 = .ok (.aload_n 0, 1) := by decide +kernel
theorem dX1_absorbByte_10 : decode cX1_absorbByte 10 = .ok (.getfield 64, 3) := by decide +kernel
theorem dX1_absorbByte_13 : decode cX1_absorbByte 13 = .ok (.bipush 15, 2) := by decide +kernel
theorem dX1_absorbByte_15 : decode cX1_absorbByte 15 = .ok (.if_icmp .ne 10, 3) := by decide +kernel
theorem dX1_absorbByte_18 : decode cX1_absorbByte 18 = .ok (.aload_n 0, 1) := by decide +kernel
theorem dX1_absorbByte_19 : decode cX1_absorbByte 19 = .ok (.invokevirtual 80, 3) := by decide +kernel
theorem dX1_absorbByte_22 : decode cX1_absorbByte 22 = .ok (.goto 7, 3) := by decide +kernel
theorem dX1_absorbByte_25 : decode cX1_absorbByte 25 = .ok (.aload_n 0, 1) := by decide +kernel
theorem dX1_absorbByte_26 : decode cX1_absorbByte 26 = .ok (.invokevirtual 83, 3) := by decide +kernel
theorem dX1_absorbByte_29 : decode cX1_absorbByte 29 = .ok (.aload_n 0, 1) := by decide +kernel
theorem dX1_absorbByte_30 : decode cX1_absorbByte 30 = .ok (.getfield 28, 3) := by decide +kernel
theorem dX1_absorbByte_33 : decode cX1_absorbByte 33 = .ok (.aload_n 0, 1) := by decide +kernel
theorem dX1_absorbByte_34 : decode cX1_absorbByte 34 = .ok (.getfield 67, 3) := by decide +kernel
theorem dX1_absorbByte_37 : decode cX1_absorbByte 37 = .ok (.iconst 2, 1) := by decide +kernel
theorem dX1_absorbByte_38 : decode cX1_absorbByte 38 = .ok (.ishr, 1) := by decide +kernel
theorem dX1_absorbByte_39 : decode cX1_absorbByte 39 = .ok (.dup2, 1) := by decide +kernel
theorem dX1_absorbByte_40 : decode cX1_absorbByte 40 = .ok (.iaload, 1) := by decide +kernel
theorem dX1_absorbByte_41 : decode cX1_absorbByte 41 = .ok (.iload_n 1, 1) := by decide +kernel
theorem dX1_absorbByte_42 : decode cX1_absorbByte 42 = .ok (.sipush 255, 3) := by decide +kernel
theorem dX1_absorbByte_45 : decode cX1_absorbByte 45 = .ok (.iand, 1) := by decide +kernel
theorem dX1_absorbByte_46 : decode cX1_absorbByte 46 = .ok (.bipush 8, 2) := by decide +kernel
theorem dX1_absorbByte_48 : decode cX1_absorbByte 48 = .ok (.aload_n 0, 1) := by decide +kernel
theorem dX1_absorbByte_49 : decode cX1_absorbByte 49 = .ok (.getfield 67, 3) := by decide +kernel
theorem dX1_absorbByte_52 : decode cX1_absorbByte 52 = .ok (.iconst 3, 1) := by decide +kernel
theorem dX1_absorbByte_53 : decode cX1_absorbByte 53 = .ok (.iand, 1) := by decide +kernel
theorem dX1_absorbByte_54 : decode cX1_absorbByte 54 = .ok (.imul, 1) := by decide +kernel
theorem dX1_absorbByte_55 : decode cX1_absorbByte 55 = .ok (.ishl, 1) := by decide +kernel
theorem dX1_absorbByte_56 : decode cX1_absorbByte 56 = .ok (.ior, 1) := by decide +kernel
theorem dX1_absorbByte_57 : decode cX1_absorbByte 57 = .ok (.iastore, 1) := by decide +kernel
theorem dX1_absorbByte_58 : decode cX1_absorbByte 58 = .ok (.aload_n 0, 1) := by decide +kernel
theorem dX1_absorbByte_59 : decode cX1_absorbByte 59 = .ok (.dup, 1) := by decide +kernel
theorem dX1_absorbByte_60 : decode cX1_absorbByte 60 = .ok (.getfield 67, 3) := by decide +kernel
theorem dX1_absorbByte_63 : decode cX1_absorbByte 63 = .ok (.iconst 1, 1) := by decide +kernel
theorem dX1_absorbByte_64 : decode cX1_absorbByte 64 = .ok (.iadd, 1) := by decide +kernel
theorem dX1_absorbByte_65 : decode cX1_absorbByte 65 = .ok (.putfield 67, 3) := by decide +kernel
theorem dX1_absorbByte_68 : decode cX1_absorbByte 68 = .ok (.aload_n 0, 1) := by decide +kernel
theorem dX1_absorbByte_69 : decode cX1_absorbByte 69 = .ok (.dup, 1) := by decide +kernel
theorem dX1_absorbByte_70 : decode cX1_absorbByte 70 = .ok (.getfield 52, 3) := by decide +kernel
theorem dX1_absorbByte_73 : decode cX1_absorbByte 73 = .ok (.iconst 1, 1) := by decide +kernel
theorem dX1_absorbByte_74 : decode cX1_absorbByte 74 = .ok (.iadd, 1) := by decide +kernel
theorem dX1_absorbByte_75 : decode cX1_absorbByte 75 = .ok (.putfield 52, 3) := by decide +kernel
theorem dX1_absorbByte_78 : decode cX1_absorbByte 78 = .ok (.return_, 1) := by decide +kernel
theorem dX1_inChunk_0 : decode cX1_inChunk 0 = .ok (.aload_n 0, 1) := by decide +kernel
theorem dX1_inChunk_1 : decode cX1_inChunk 1 = .ok (.getfield 64, 3) := by decide +kernel
theorem dX1_inChunk_4 : decode cX1_inChunk 4 = .ok (.bipush 64, 2) := by decide +kernel
theorem dX1_inChunk_6 : decode cX1_inChunk 6 = .ok (.imul, 1) := by decide +kernel
theorem dX1_inChunk_7 : decode cX1_inChunk 7 = .ok (.aload_n 0, 1) := by decide +kernel
theorem dX1_inChunk_8 : decode cX1_inChunk 8 = .ok (.getfield 67, 3) := by decide +kernel
theorem dX1_inChunk_11 : decode cX1_inChunk 11 = .ok (.iadd, 1) := by decide +kernel
theorem dX1_inChunk_12 : decode cX1_inChunk 12 = .ok (.ireturn, 1) := by decide +kernel
theorem dX1_stackWord_0 : decode cX1_stackWord 0 = .ok (.iload_n 1, 1) := by decide +kernel
theorem dX1_stackWord_1 : decode cX1_stackWord 1 = .ok (.ifCond .lt 21, 3) := by decide +kernel
theorem dX1_stackWord_4 : decode cX1_stackWord 4 = .ok (.iload_n 1, 1) := by decide +kernel
theorem dX1_stackWord_5 : decode cX1_stackWord 5 = .ok (.aload_n 0, 1) := by decide +kernel
theorem dX1_stackWord_6 : decode cX1_stackWord 6 = .ok (.getfield 58, 3) := by decide +kernel
theorem dX1_stackWord_9 : decode cX1_stackWord 9 = .ok (.if_icmp .ge 13, 3) := by decide +kernel
theorem dX1_stackWord_12 : decode cX1_stackWord 12 = .ok (.iload_n 2, 1) := by decide +kernel
theorem dX1_stackWord_13 : decode cX1_stackWord 13 = .ok (.ifCond .lt 9, 3) := by decide +kernel
theorem dX1_stackWord_16 : decode cX1_stackWord 16 = .ok (.iload_n 2, 1) := by decide +kernel
theorem dX1_stackWord_17 : decode cX1_stackWord 17 = .ok (.bipush 8, 2) := by decide +kernel
theorem dX1_stackWord_19 : decode cX1_stackWord 19 = .ok (.if_icmp .lt 5, 3) := by decide +kernel
theorem dX1_stackWord_22 : decode cX1_stackWord 22 = .ok (.iconst 0, 1) := by decide +kernel
theorem dX1_stackWord_23 : decode cX1_stackWord 23 = .ok (.ireturn, 1) := by decide +kernel
theorem dX1_stackWord_24 : decode cX1_stackWord 24 = .ok (.aload_n 0, 1) := by decide +kernel
theorem dX1_stackWord_25 : decode cX1_stackWord 25 = .ok (.getfield 22, 3) := by decide +kernel
theorem dX1_stackWord_28 : decode cX1_stackWord 28 = .ok (.iload_n 1, 1) := by decide +kernel
theorem dX1_stackWord_29 : decode cX1_stackWord 29 = .ok (.bipush 8, 2) := by decide +kernel
theorem dX1_stackWord_31 : decode cX1_stackWord 31 = .ok (.imul, 1) := by decide +kernel
theorem dX1_stackWord_32 : decode cX1_stackWord 32 = .ok (.iload_n 2, 1) := by decide +kernel
theorem dX1_stackWord_33 : decode cX1_stackWord 33 = .ok (.iadd, 1) := by decide +kernel
theorem dX1_stackWord_34 : decode cX1_stackWord 34 = .ok (.iaload, 1) := by decide +kernel
theorem dX1_stackWord_35 : decode cX1_stackWord 35 = .ok (.ireturn, 1) := by decide +kernel
set_option maxRecDepth 20000 in
theorem ggX1_prepareLast_X1_prepareBlock : GoodIn wsX1_prepareLast wsX1_prepareBlock := goodIn_r _ [10, 11, 2, 12, 13, 14, 15, 16, 5, 17, 18, 19, 20, 21, 22, 23, 24, 25, 26, 53, 54, 55, 56, 57, 58, 59, 60, 61, 62, 63, 64, 65, 66, 67, 68, 69, 70, 71, 72, 73] (by decide +kernel) (by decide +kernel)
set_option maxRecDepth 20000 in
theorem gX1_prepareLast_X1_prepareBlock : GoodIn wsX1_prepareLast (wsV RX1 86 RX1 yX1_prepareBlock wsX1_prepareBlock) := goodIn_app (goodIn_of _ (by decide +kernel)) ggX1_prepareLast_X1_prepareBlock
set_option maxRecDepth 20000 in
theorem ggX1_prepareLast_X2_run : GoodIn wsX1_prepareLast wsX2_run := goodIn_r _ [30, 31, 32, 22, 33, 34, 35, 20, 36, 37, 24, 25, 26, 23, 38, 39, 40, 41, 42, 43, 44, 45, 46, 47, 66, 67, 68, 69, 70, 71, 72, 73] (by decide +kernel) (by decide +kernel)
set_option maxRecDepth 20000 in
theorem gX1_prepareLast_X2_run : GoodIn wsX1_prepareLast (wsV RX1 89 RX2 yX2_run wsX2_run) := goodIn_app (goodIn_of _ (by decide +kernel)) ggX1_prepareLast_X2_run
set_option maxRecDepth 20000 in
theorem ggX1_prepareLast_X2_joinBehind : GoodIn wsX1_prepareLast wsX2_joinBehind := goodIn_r _ [51, 23, 32, 52, 18, 19, 20, 21, 22, 24, 25, 26, 66, 67, 68, 69, 70, 71, 72, 73] (by decide +kernel) (by decide +kernel)
set_option maxRecDepth 20000 in
theorem gX1_prepareLast_X2_joinBehind : GoodIn wsX1_prepareLast (wsV RX1 92 RX2 yX2_joinBehind wsX2_joinBehind) := goodIn_app (goodIn_of _ (by decide +kernel)) ggX1_prepareLast_X2_joinBehind
theorem dX1_prepareLast_0 : decode cX1_prepareLast 0 = .ok (.aload_n 0, 1) := by decide +kernel
theorem dX1_prepareLast_1 : decode cX1_prepareLast 1 = .ok (.iconst 2, 1) := by decide +kernel
theorem dX1_prepareLast_2 : decode cX1_prepareLast 2 = .ok (.invokevirtual 86, 3) := by decide +kernel
theorem dX1_prepareLast_5 : decode cX1_prepareLast 5 = .ok (.aload_n 0, 1) := by decide +kernel
theorem dX1_prepareLast_6 : decode cX1_prepareLast 6 = .ok (.getfield 58, 3) := by decide +kernel
theorem dX1_prepareLast_9 : decode cX1_prepareLast 9 = .ok (.iconst 1, 1) := by decide +kernel
theorem dX1_prepareLast_10 : decode cX1_prepareLast 10 = .ok (.isub, 1) := by decide +kernel
theorem dX1_prepareLast_11 : decode cX1_prepareLast 11 = .ok (.istore_n 1, 1) := by decide +kernel
theorem dX1_prepareLast_12 : decode cX1_prepareLast 12 = .ok (.iload_n 1, 1) := by decide +kernel
theorem dX1_prepareLast_13 : decode cX1_prepareLast 13 = .ok (.ifCond .lt 39, 3) := by decide +kernel
theorem dX1_prepareLast_16 : decode cX1_prepareLast 16 = .ok (.aload_n 0, 1) := by decide +kernel
theorem dX1_prepareLast_17 : decode cX1_prepareLast 17 = .ok (.getfield 14, 3) := by decide +kernel
theorem dX1_prepareLast_20 : decode cX1_prepareLast 20 = .ok (.invokevirtual 89, 3) := by decide +kernel
theorem dX1_prepareLast_23 : decode cX1_prepareLast 23 = .ok (.aload_n 0, 1) := by decide +kernel
theorem dX1_prepareLast_24 : decode cX1_prepareLast 24 = .ok (.getfield 14, 3) := by decide +kernel
theorem dX1_prepareLast_27 : decode cX1_prepareLast 27 = .ok (.aload_n 0, 1) := by decide +kernel
theorem dX1_prepareLast_28 : decode cX1_prepareLast 28 = .ok (.getfield 22, 3) := by decide +kernel
theorem dX1_prepareLast_31 : decode cX1_prepareLast 31 = .ok (.iload_n 1, 1) := by decide +kernel
theorem dX1_prepareLast_32 : decode cX1_prepareLast 32 = .ok (.bipush 8, 2) := by decide +kernel
theorem dX1_prepareLast_34 : decode cX1_prepareLast 34 = .ok (.imul, 1) := by decide +kernel
theorem dX1_prepareLast_35 : decode cX1_prepareLast 35 = .ok (.aload_n 0, 1) := by decide +kernel
theorem dX1_prepareLast_36 : decode cX1_prepareLast 36 = .ok (.getfield 18, 3) := by decide +kernel
theorem dX1_prepareLast_39 : decode cX1_prepareLast 39 = .ok (.aload_n 0, 1) := by decide +kernel
theorem dX1_prepareLast_40 : decode cX1_prepareLast 40 = .ok (.getfield 46, 3) := by decide +kernel
theorem dX1_prepareLast_43 : decode cX1_prepareLast 43 = .ok (.invokevirtual 92, 3) := by decide +kernel
theorem dX1_prepareLast_46 : decode cX1_prepareLast 46 = .ok (.iinc 1 (-1), 3) := by decide +kernel
theorem dX1_prepareLast_49 : decode cX1_prepareLast 49 = .ok (.goto (-37), 3) := by decide +kernel
theorem dX1_prepareLast_52 : decode cX1_prepareLast 52 = .ok (.return_, 1) := by decide +kernel
set_option maxRecDepth 20000 in
theorem ggX1_prepareBlock_X2_prepare : GoodIn wsX1_prepareBlock wsX2_prepare := goodIn_r _ [13, 14, 15, 16, 17, 18, 32, 33, 34, 35, 36, 37, 38, 39] (by decide +kernel) (by decide +kernel)
set_option maxRecDepth 20000 in
theorem gX1_prepareBlock_X2_prepare : GoodIn wsX1_prepareBlock (wsV RX1 96 RX2 yX2_prepare wsX2_prepare) := goodIn_app (goodIn_of _ (by decide +kernel)) ggX1_prepareBlock_X2_prepare
theorem dX1_prepareBlock_0 : decode cX1_prepareBlock 0 = .ok (.aload_n 0, 1) := by decide +kernel
theorem dX1_prepareBlock_1 : decode cX1_prepareBlock 1 = .ok (.getfield 64, 3) := by decide +kernel
theorem dX1_prepareBlock_4 : decode cX1_prepareBlock 4 = .ok (.ifCond .ne 7, 3) := by decide +kernel
theorem dX1_prepareBlock_7 : decode cX1_prepareBlock 7 = .ok (.iconst 1, 1) := by decide +kernel
theorem dX1_prepareBlock_8 : decode cX1_prepareBlock 8 = .ok (.goto 4, 3) := by decide +kernel
theorem dX1_prepareBlock_11 : decode cX1_prepareBlock 11 = .ok (.iconst 0, 1) := by decide +kernel
theorem dX1_prepareBlock_12 : decode cX1_prepareBlock 12 = .ok (.istore_n 2, 1) := by decide +kernel
theorem dX1_prepareBlock_13 : decode cX1_prepareBlock 13 = .ok (.aload_n 0, 1) := by decide +kernel
theorem dX1_prepareBlock_14 : decode cX1_prepareBlock 14 = .ok (.getfield 14, 3) := by decide +kernel
theorem dX1_prepareBlock_17 : decode cX1_prepareBlock 17 = .ok (.aload_n 0, 1) := by decide +kernel
theorem dX1_prepareBlock_18 : decode cX1_prepareBlock 18 = .ok (.getfield 25, 3) := by decide +kernel
theorem dX1_prepareBlock_21 : decode cX1_prepareBlock 21 = .ok (.aload_n 0, 1) := by decide +kernel
theorem dX1_prepareBlock_22 : decode cX1_prepareBlock 22 = .ok (.getfield 28, 3) := by decide +kernel
theorem dX1_prepareBlock_25 : decode cX1_prepareBlock 25 = .ok (.aload_n 0, 1) := by decide +kernel
theorem dX1_prepareBlock_26 : decode cX1_prepareBlock 26 = .ok (.getfield 49, 3) := by decide +kernel
theorem dX1_prepareBlock_29 : decode cX1_prepareBlock 29 = .ok (.aload_n 0, 1) := by decide +kernel
theorem dX1_prepareBlock_30 : decode cX1_prepareBlock 30 = .ok (.getfield 55, 3) := by decide +kernel
theorem dX1_prepareBlock_33 : decode cX1_prepareBlock 33 = .ok (.iadd, 1) := by decide +kernel
theorem dX1_prepareBlock_34 : decode cX1_prepareBlock 34 = .ok (.i2l, 1) := by decide +kernel
theorem dX1_prepareBlock_35 : decode cX1_prepareBlock 35 = .ok (.aload_n 0, 1) := by decide +kernel
theorem dX1_prepareBlock_36 : decode cX1_prepareBlock 36 = .ok (.getfield 67, 3) := by decide +kernel
theorem dX1_prepareBlock_39 : decode cX1_prepareBlock 39 = .ok (.aload_n 0, 1) := by decide +kernel
theorem dX1_prepareBlock_40 : decode cX1_prepareBlock 40 = .ok (.getfield 46, 3) := by decide +kernel
theorem dX1_prepareBlock_43 : decode cX1_prepareBlock 43 = .ok (.iload_n 2, 1) := by decide +kernel
theorem dX1_prepareBlock_44 : decode cX1_prepareBlock 44 = .ok (.iadd, 1) := by decide +kernel
theorem dX1_prepareBlock_45 : decode cX1_prepareBlock 45 = .ok (.iload_n 1, 1) := by decide +kernel
theorem dX1_prepareBlock_46 : decode cX1_prepareBlock 46 = .ok (.iadd, 1) := by decide +kernel
theorem dX1_prepareBlock_47 : decode cX1_prepareBlock 47 = .ok (.invokevirtual 96, 3) := by decide +kernel
theorem dX1_prepareBlock_50 : decode cX1_prepareBlock 50 = .ok (.return_, 1) := by decide +kernel
set_option maxRecDepth 20000 in
theorem ggX1_closeBlock_X1_prepareBlock : GoodIn wsX1_closeBlock wsX1_prepareBlock := goodIn_r _ [8, 3, 1, 2, 9, 10, 11, 12, 13, 14, 15, 16, 17, 18, 19, 20, 21, 22, 23, 53, 54, 55, 56, 57, 58, 59, 60, 61, 62, 63, 64, 65, 66, 67, 68, 69, 70, 71, 72, 73] (by decide +kernel) (by decide +kernel)
set_option maxRecDepth 20000 in
theorem gX1_closeBlock_X1_prepareBlock : GoodIn wsX1_closeBlock (wsV RX1 86 RX1 yX1_prepareBlock wsX1_prepareBlock) := goodIn_app (goodIn_of _ (by decide +kernel)) ggX1_closeBlock_X1_prepareBlock
set_option maxRecDepth 20000 in
theorem ggX1_closeBlock_X2_run : GoodIn wsX1_closeBlock wsX2_run := goodIn_r _ [27, 28, 29, 19, 30, 31, 32, 17, 33, 34, 21, 22, 23, 20, 35, 36, 37, 38, 39, 40, 41, 42, 43, 44, 66, 67, 68, 69, 70, 71, 72, 73] (by decide +kernel) (by decide +kernel)
set_option maxRecDepth 20000 in
theorem gX1_closeBlock_X2_run : GoodIn wsX1_closeBlock (wsV RX1 89 RX2 yX2_run wsX2_run) := goodIn_app (goodIn_of _ (by decide +kernel)) ggX1_closeBlock_X2_run
set_option maxRecDepth 20000 in
theorem ggX1_closeBlock_X2_writeChain : GoodIn wsX1_closeBlock wsX2_writeChain := goodIn_r _ [48, 29, 66, 67, 68, 69, 70, 71, 72, 73] (by decide +kernel) (by decide +kernel)
set_option maxRecDepth 20000 in
theorem gX1_closeBlock_X2_writeChain : GoodIn wsX1_closeBlock (wsV RX1 100 RX2 yX2_writeChain wsX2_writeChain) := goodIn_app (goodIn_of _ (by decide +kernel)) ggX1_closeBlock_X2_writeChain
set_option maxRecDepth 20000 in
theorem ggX1_closeBlock_X1_startBlock : GoodIn wsX1_closeBlock wsX1_startBlock := goodIn_r _ [52, 9, 12, 53, 54, 55, 56, 57, 58, 59, 60, 61, 62, 63, 64, 65] (by decide +kernel) (by decide +kernel)
set_option maxRecDepth 20000 in
theorem gX1_closeBlock_X1_startBlock : GoodIn wsX1_closeBlock (wsV RX1 104 RX1 yX1_startBlock wsX1_startBlock) := goodIn_app (goodIn_of _ (by decide +kernel)) ggX1_closeBlock_X1_startBlock
theorem dX1_closeBlock_0 : decode cX1_closeBlock 0 = .ok (.aload_n 0, 1) := by decide +kernel
theorem dX1_closeBlock_1 : decode cX1_closeBlock 1 = .ok (.iconst 0, 1) := by decide +kernel
theorem dX1_closeBlock_2 : decode cX1_closeBlock 2 = .ok (.invokevirtual 86, 3) := by decide +kernel
theorem dX1_closeBlock_5 : decode cX1_closeBlock 5 = .ok (.aload_n 0, 1) := by decide +kernel
theorem dX1_closeBlock_6 : decode cX1_closeBlock 6 = .ok (.getfield 14, 3) := by decide +kernel
theorem dX1_closeBlock_9 : decode cX1_closeBlock 9 = .ok (.invokevirtual 89, 3) := by decide +kernel
theorem dX1_closeBlock_12 : decode cX1_closeBlock 12 = .ok (.aload_n 0, 1) := by decide +kernel
theorem dX1_closeBlock_13 : decode cX1_closeBlock 13 = .ok (.getfield 14, 3) := by decide +kernel
theorem dX1_closeBlock_16 : decode cX1_closeBlock 16 = .ok (.aload_n 0, 1) := by decide +kernel
theorem dX1_closeBlock_17 : decode cX1_closeBlock 17 = .ok (.getfield 25, 3) := by decide +kernel
theorem dX1_closeBlock_20 : decode cX1_closeBlock 20 = .ok (.iconst 0, 1) := by decide +kernel
theorem dX1_closeBlock_21 : decode cX1_closeBlock 21 = .ok (.invokevirtual 100, 3) := by decide +kernel
theorem dX1_closeBlock_24 : decode cX1_closeBlock 24 = .ok (.aload_n 0, 1) := by decide +kernel
theorem dX1_closeBlock_25 : decode cX1_closeBlock 25 = .ok (.dup, 1) := by decide +kernel
theorem dX1_closeBlock_26 : decode cX1_closeBlock 26 = .ok (.getfield 64, 3) := by decide +kernel
theorem dX1_closeBlock_29 : decode cX1_closeBlock 29 = .ok (.iconst 1, 1) := by decide +kernel
theorem dX1_closeBlock_30 : decode cX1_closeBlock 30 = .ok (.iadd, 1) := by decide +kernel
theorem dX1_closeBlock_31 : decode cX1_closeBlock 31 = .ok (.putfield 64, 3) := by decide +kernel
theorem dX1_closeBlock_34 : decode cX1_closeBlock 34 = .ok (.aload_n 0, 1) := by decide +kernel
theorem dX1_closeBlock_35 : decode cX1_closeBlock 35 = .ok (.invokevirtual 104, 3) := by decide +kernel
theorem dX1_closeBlock_38 : decode cX1_closeBlock 38 = .ok (.return_, 1) := by decide +kernel
set_option maxRecDepth 20000 in
theorem ggX1_closeChunk_X1_prepareBlock : GoodIn wsX1_closeChunk wsX1_prepareBlock := goodIn_r _ [11, 12, 1, 13, 14, 15, 2, 16, 6, 17, 18, 19, 20, 21, 22, 23, 24, 25, 26, 68, 69, 70, 71, 72, 73, 74, 75, 76, 77, 78, 79, 80, 81, 82, 83, 84, 85, 86, 87, 88] (by decide +kernel) (by decide +kernel)
set_option maxRecDepth 20000 in
theorem gX1_closeChunk_X1_prepareBlock : GoodIn wsX1_closeChunk (wsV RX1 86 RX1 yX1_prepareBlock wsX1_prepareBlock) := goodIn_app (goodIn_of _ (by decide +kernel)) ggX1_closeChunk_X1_prepareBlock
set_option maxRecDepth 20000 in
theorem ggX1_closeChunk_X2_run : GoodIn wsX1_closeChunk wsX2_run := goodIn_r _ [30, 31, 32, 22, 33, 34, 35, 20, 36, 37, 24, 25, 26, 23, 38, 39, 40, 41, 42, 43, 44, 45, 46, 47, 81, 82, 83, 84, 85, 86, 87, 88] (by decide +kernel) (by decide +kernel)
set_option maxRecDepth 20000 in
theorem gX1_closeChunk_X2_run : GoodIn wsX1_closeChunk (wsV RX1 89 RX2 yX2_run wsX2_run) := goodIn_app (goodIn_of _ (by decide +kernel)) ggX1_closeChunk_X2_run
set_option maxRecDepth 20000 in
theorem ggX1_closeChunk_X2_joinBehind : GoodIn wsX1_closeChunk wsX2_joinBehind := goodIn_r _ [51, 23, 32, 52, 18, 19, 20, 21, 22, 24, 25, 26, 81, 82, 83, 84, 85, 86, 87, 88] (by decide +kernel) (by decide +kernel)
set_option maxRecDepth 20000 in
theorem gX1_closeChunk_X2_joinBehind : GoodIn wsX1_closeChunk (wsV RX1 92 RX2 yX2_joinBehind wsX2_joinBehind) := goodIn_app (goodIn_of _ (by decide +kernel)) ggX1_closeChunk_X2_joinBehind
set_option maxRecDepth 20000 in
theorem ggX1_closeChunk_X2_writeChain : GoodIn wsX1_closeChunk wsX2_writeChain := goodIn_r _ [56, 32, 81, 82, 83, 84, 85, 86, 87, 88] (by decide +kernel) (by decide +kernel)
set_option maxRecDepth 20000 in
theorem gX1_closeChunk_X2_writeChain : GoodIn wsX1_closeChunk (wsV RX1 100 RX2 yX2_writeChain wsX2_writeChain) := goodIn_app (goodIn_of _ (by decide +kernel)) ggX1_closeChunk_X2_writeChain
set_option maxRecDepth 20000 in
theorem ggX1_closeChunk_X1_startChunk : GoodIn wsX1_closeChunk wsX1_startChunk := goodIn_r _ [60, 5, 13, 12, 61, 62, 10, 63, 64, 65, 66, 67, 14, 16, 68, 69, 70, 71, 72, 73, 74, 75, 76, 77, 78, 79, 80] (by decide +kernel) (by decide +kernel)
set_option maxRecDepth 20000 in
theorem gX1_closeChunk_X1_startChunk : GoodIn wsX1_closeChunk (wsV RX1 61 RX1 yX1_startChunk wsX1_startChunk) := goodIn_app (goodIn_of _ (by decide +kernel)) ggX1_closeChunk_X1_startChunk
theorem dX1_closeChunk_0 : decode cX1_closeChunk 0 = .ok (.aload_n 0, 1) := by decide +kernel
theorem dX1_closeChunk_1 : decode cX1_closeChunk 1 = .ok (.iconst 2, 1) := by decide +kernel
theorem dX1_closeChunk_2 : decode cX1_closeChunk 2 = .ok (.invokevirtual 86, 3) := by decide +kernel
theorem dX1_closeChunk_5 : decode cX1_closeChunk 5 = .ok (.aload_n 0, 1) := by decide +kernel
theorem dX1_closeChunk_6 : decode cX1_closeChunk 6 = .ok (.getfield 14, 3) := by decide +kernel
theorem dX1_closeChunk_9 : decode cX1_closeChunk 9 = .ok (.invokevirtual 89, 3) := by decide +kernel
theorem dX1_closeChunk_12 : decode cX1_closeChunk 12 = .ok (.aload_n 0, 1) := by decide +kernel
theorem dX1_closeChunk_13 : decode cX1_closeChunk 13 = .ok (.dup, 1) := by decide +kernel
theorem dX1_closeChunk_14 : decode cX1_closeChunk 14 = .ok (.getfield 55, 3) := by decide +kernel
theorem dX1_closeChunk_17 : decode cX1_closeChunk 17 = .ok (.iconst 1, 1) := by decide +kernel
theorem dX1_closeChunk_18 : decode cX1_closeChunk 18 = .ok (.iadd, 1) := by decide +kernel
theorem dX1_closeChunk_19 : decode cX1_closeChunk 19 = .ok (.putfield 55, 3) := by decide +kernel
theorem dX1_closeChunk_22 : decode cX1_closeChunk 22 = .ok (.aload_n 0, 1) := by decide +kernel
theorem dX1_closeChunk_23 : decode cX1_closeChunk 23 = .ok (.getfield 55, 3) := by decide +kernel
theorem dX1_closeChunk_26 : decode cX1_closeChunk 26 = .ok (.istore_n 1, 1) := by decide +kernel
theorem dX1_closeChunk_27 : decode cX1_closeChunk 27 = .ok (.aload_n 0, 1) := by decide +kernel
theorem dX1_closeChunk_28 : decode cX1_closeChunk 28 = .ok (.getfield 58, 3) := by decide +kernel
theorem dX1_closeChunk_31 : decode cX1_closeChunk 31 = .ok (.ifCond .le 59, 3) := by decide +kernel
theorem dX1_closeChunk_34 : decode cX1_closeChunk 34 = .ok (.iload_n 1, 1) := by decide +kernel
theorem dX1_closeChunk_35 : decode cX1_closeChunk 35 = .ok (.iconst 1, 1) := by decide +kernel
theorem dX1_closeChunk_36 : decode cX1_closeChunk 36 = .ok (.iand, 1) := by decide +kernel
theorem dX1_closeChunk_37 : decode cX1_closeChunk 37 = .ok (.ifCond .ne 53, 3) := by decide +kernel
theorem dX1_closeChunk_40 : decode cX1_closeChunk 40 = .ok (.aload_n 0, 1) := by decide +kernel
theorem dX1_closeChunk_41 : decode cX1_closeChunk 41 = .ok (.dup, 1) := by decide +kernel
theorem dX1_closeChunk_42 : decode cX1_closeChunk 42 = .ok (.getfield 58, 3) := by decide +kernel
theorem dX1_closeChunk_45 : decode cX1_closeChunk 45 = .ok (.iconst 1, 1) := by decide +kernel
theorem dX1_closeChunk_46 : decode cX1_closeChunk 46 = .ok (.isub, 1) := by decide +kernel
theorem dX1_closeChunk_47 : decode cX1_closeChunk 47 = .ok (.putfield 58, 3) := by decide +kernel
theorem dX1_closeChunk_50 : decode cX1_closeChunk 50 = .ok (.aload_n 0, 1) := by decide +kernel
theorem dX1_closeChunk_51 : decode cX1_closeChunk 51 = .ok (.getfield 14, 3) := by decide +kernel
theorem dX1_closeChunk_54 : decode cX1_closeChunk 54 = .ok (.aload_n 0, 1) := by decide +kernel
theorem dX1_closeChunk_55 : decode cX1_closeChunk 55 = .ok (.getfield 22, 3) := by decide +kernel
theorem dX1_closeChunk_58 : decode cX1_closeChunk 58 = .ok (.aload_n 0, 1) := by decide +kernel
theorem dX1_closeChunk_59 : decode cX1_closeChunk 59 = .ok (.getfield 58, 3) := by decide +kernel
theorem dX1_closeChunk_62 : decode cX1_closeChunk 62 = .ok (.bipush 8, 2) := by decide +kernel
theorem dX1_closeChunk_64 : decode cX1_closeChunk 64 = .ok (.imul, 1) := by decide +kernel
theorem dX1_closeChunk_65 : decode cX1_closeChunk 65 = .ok (.aload_n 0, 1) := by decide +kernel
theorem dX1_closeChunk_66 : decode cX1_closeChunk 66 = .ok (.getfield 18, 3) := by decide +kernel
theorem dX1_closeChunk_69 : decode cX1_closeChunk 69 = .ok (.aload_n 0, 1) := by decide +kernel
theorem dX1_closeChunk_70 : decode cX1_closeChunk 70 = .ok (.getfield 46, 3) := by decide +kernel
theorem dX1_closeChunk_73 : decode cX1_closeChunk 73 = .ok (.invokevirtual 92, 3) := by decide +kernel
theorem dX1_closeChunk_76 : decode cX1_closeChunk 76 = .ok (.aload_n 0, 1) := by decide +kernel
theorem dX1_closeChunk_77 : decode cX1_closeChunk 77 = .ok (.getfield 14, 3) := by decide +kernel
theorem dX1_closeChunk_80 : decode cX1_closeChunk 80 = .ok (.invokevirtual 89, 3) := by decide +kernel
theorem dX1_closeChunk_83 : decode cX1_closeChunk 83 = .ok (.iload_n 1, 1) := by decide +kernel
theorem dX1_closeChunk_84 : decode cX1_closeChunk 84 = .ok (.iconst 1, 1) := by decide +kernel
theorem dX1_closeChunk_85 : decode cX1_closeChunk 85 = .ok (.ishr, 1) := by decide +kernel
theorem dX1_closeChunk_86 : decode cX1_closeChunk 86 = .ok (.istore_n 1, 1) := by decide +kernel
theorem dX1_closeChunk_87 : decode cX1_closeChunk 87 = .ok (.goto (-60), 3) := by decide +kernel
theorem dX1_closeChunk_90 : decode cX1_closeChunk 90 = .ok (.aload_n 0, 1) := by decide +kernel
theorem dX1_closeChunk_91 : decode cX1_closeChunk 91 = .ok (.getfield 58, 3) := by decide +kernel
theorem dX1_closeChunk_94 : decode cX1_closeChunk 94 = .ok (.iconst 5, 1) := by decide +kernel
theorem dX1_closeChunk_95 : decode cX1_closeChunk 95 = .ok (.if_icmp .ge 31, 3) := by decide +kernel
theorem dX1_closeChunk_98 : decode cX1_closeChunk 98 = .ok (.aload_n 0, 1) := by decide +kernel
theorem dX1_closeChunk_99 : decode cX1_closeChunk 99 = .ok (.getfield 14, 3) := by decide +kernel
theorem dX1_closeChunk_102 : decode cX1_closeChunk 102 = .ok (.aload_n 0, 1) := by decide +kernel
theorem dX1_closeChunk_103 : decode cX1_closeChunk 103 = .ok (.getfield 22, 3) := by decide +kernel
theorem dX1_closeChunk_106 : decode cX1_closeChunk 106 = .ok (.aload_n 0, 1) := by decide +kernel
theorem dX1_closeChunk_107 : decode cX1_closeChunk 107 = .ok (.getfield 58, 3) := by decide +kernel
theorem dX1_closeChunk_110 : decode cX1_closeChunk 110 = .ok (.bipush 8, 2) := by decide +kernel
theorem dX1_closeChunk_112 : decode cX1_closeChunk 112 = .ok (.imul, 1) := by decide +kernel
theorem dX1_closeChunk_113 : decode cX1_closeChunk 113 = .ok (.invokevirtual 100, 3) := by decide +kernel
theorem dX1_closeChunk_116 : decode cX1_closeChunk 116 = .ok (.aload_n 0, 1) := by decide +kernel
theorem dX1_closeChunk_117 : decode cX1_closeChunk 117 = .ok (.dup, 1) := by decide +kernel
theorem dX1_closeChunk_118 : decode cX1_closeChunk 118 = .ok (.getfield 58, 3) := by decide +kernel
theorem dX1_closeChunk_121 : decode cX1_closeChunk 121 = .ok (.iconst 1, 1) := by decide +kernel
theorem dX1_closeChunk_122 : decode cX1_closeChunk 122 = .ok (.iadd, 1) := by decide +kernel
theorem dX1_closeChunk_123 : decode cX1_closeChunk 123 = .ok (.putfield 58, 3) := by decide +kernel
theorem dX1_closeChunk_126 : decode cX1_closeChunk 126 = .ok (.aload_n 0, 1) := by decide +kernel
theorem dX1_closeChunk_127 : decode cX1_closeChunk 127 = .ok (.invokevirtual 61, 3) := by decide +kernel
theorem dX1_closeChunk_130 : decode cX1_closeChunk 130 = .ok (.return_, 1) := by decide +kernel
set_option maxRecDepth 20000 in
theorem ggX1_startChunk_X1_copyWords : GoodIn wsX1_startChunk wsX1_copyWords := goodIn_r _ [7] (by decide +kernel) (by decide +kernel)
set_option maxRecDepth 20000 in
theorem gX1_startChunk_X1_copyWords : GoodIn wsX1_startChunk (va_wsS RX1 38 yX1_copyWords wsX1_copyWords) := goodIn_app (goodIn_of _ (by decide +kernel)) ggX1_startChunk_X1_copyWords
set_option maxRecDepth 20000 in
theorem ggX1_startChunk_X1_startBlock : GoodIn wsX1_startChunk wsX1_startBlock := goodIn_r _ [11, 12, 13, 14, 15, 16, 17, 18, 19, 20, 21, 22, 23, 24, 25, 26] (by decide +kernel) (by decide +kernel)
set_option maxRecDepth 20000 in
theorem gX1_startChunk_X1_startBlock : GoodIn wsX1_startChunk (wsV RX1 104 RX1 yX1_startBlock wsX1_startBlock) := goodIn_app (goodIn_of _ (by decide +kernel)) ggX1_startChunk_X1_startBlock
theorem dX1_startChunk_0 : decode cX1_startChunk 0 = .ok (.aload_n 0, 1) := by decide +kernel
theorem dX1_startChunk_1 : decode cX1_startChunk 1 = .ok (.getfield 18, 3) := by decide +kernel
theorem dX1_startChunk_4 : decode cX1_startChunk 4 = .ok (.aload_n 0, 1) := by decide +kernel
theorem dX1_startChunk_5 : decode cX1_startChunk 5 = .ok (.getfield 25, 3) := by decide +kernel
theorem dX1_startChunk_8 : decode cX1_startChunk 8 = .ok (.invokestatic 38, 3) := by decide +kernel
theorem dX1_startChunk_11 : decode cX1_startChunk 11 = .ok (.aload_n 0, 1) := by decide +kernel
theorem dX1_startChunk_12 : decode cX1_startChunk 12 = .ok (.iconst 0, 1) := by decide +kernel
theorem dX1_startChunk_13 : decode cX1_startChunk 13 = .ok (.putfield 64, 3) := by decide +kernel
theorem dX1_startChunk_16 : decode cX1_startChunk 16 = .ok (.aload_n 0, 1) := by decide +kernel
theorem dX1_startChunk_17 : decode cX1_startChunk 17 = .ok (.invokevirtual 104, 3) := by decide +kernel
theorem dX1_startChunk_20 : decode cX1_startChunk 20 = .ok (.return_, 1) := by decide +kernel
theorem dX1_startBlock_0 : decode cX1_startBlock 0 = .ok (.iconst 0, 1) := by decide +kernel
theorem dX1_startBlock_1 : decode cX1_startBlock 1 = .ok (.istore_n 1, 1) := by decide +kernel
theorem dX1_startBlock_2 : decode cX1_startBlock 2 = .ok (.iload_n 1, 1) := by decide +kernel
theorem dX1_startBlock_3 : decode cX1_startBlock 3 = .ok (.aload_n 0, 1) := by decide +kernel
theorem dX1_startBlock_4 : decode cX1_startBlock 4 = .ok (.getfield 28, 3) := by decide +kernel
theorem dX1_startBlock_7 : decode cX1_startBlock 7 = .ok (.arraylength, 1) := by decide +kernel
theorem dX1_startBlock_8 : decode cX1_startBlock 8 = .ok (.if_icmp .ge 16, 3) := by decide +kernel
theorem dX1_startBlock_11 : decode cX1_startBlock 11 = .ok (.aload_n 0, 1) := by decide +kernel
theorem dX1_startBlock_12 : decode cX1_startBlock 12 = .ok (.getfield 28, 3) := by decide +kernel
theorem dX1_startBlock_15 : decode cX1_startBlock 15 = .ok (.iload_n 1, 1) := by decide +kernel
theorem dX1_startBlock_16 : decode cX1_startBlock 16 = .ok (.iconst 0, 1) := by decide +kernel
theorem dX1_startBlock_17 : decode cX1_startBlock 17 = .ok (.iastore, 1) := by decide +kernel
theorem dX1_startBlock_18 : decode cX1_startBlock 18 = .ok (.iinc 1 1, 3) := by decide +kernel
theorem dX1_startBlock_21 : decode cX1_startBlock 21 = .ok (.goto (-19), 3) := by decide +kernel
theorem dX1_startBlock_24 : decode cX1_startBlock 24 = .ok (.aload_n 0, 1) := by decide +kernel
theorem dX1_startBlock_25 : decode cX1_startBlock 25 = .ok (.iconst 0, 1) := by decide +kernel
theorem dX1_startBlock_26 : decode cX1_startBlock 26 = .ok (.putfield 67, 3) := by decide +kernel
theorem dX1_startBlock_29 : decode cX1_startBlock 29 = .ok (.return_, 1) := by decide +kernel
theorem dX1_copyWords_0 : decode cX1_copyWords 0 = .ok (.iconst 0, 1) := by decide +kernel
theorem dX1_copyWords_1 : decode cX1_copyWords 1 = .ok (.istore_n 2, 1) := by decide +kernel
theorem dX1_copyWords_2 : decode cX1_copyWords 2 = .ok (.iload_n 2, 1) := by decide +kernel
theorem dX1_copyWords_3 : decode cX1_copyWords 3 = .ok (.aload_n 1, 1) := by decide +kernel
theorem dX1_copyWords_4 : decode cX1_copyWords 4 = .ok (.arraylength, 1) := by decide +kernel
theorem dX1_copyWords_5 : decode cX1_copyWords 5 = .ok (.if_icmp .ge 21, 3) := by decide +kernel
theorem dX1_copyWords_8 : decode cX1_copyWords 8 = .ok (.iload_n 2, 1) := by decide +kernel
theorem dX1_copyWords_9 : decode cX1_copyWords 9 = .ok (.aload_n 0, 1) := by decide +kernel
theorem dX1_copyWords_10 : decode cX1_copyWords 10 = .ok (.arraylength, 1) := by decide +kernel
theorem dX1_copyWords_11 : decode cX1_copyWords 11 = .ok (.if_icmp .ge 15, 3) := by decide +kernel
theorem dX1_copyWords_14 : decode cX1_copyWords 14 = .ok (.aload_n 1, 1) := by decide +kernel
theorem dX1_copyWords_15 : decode cX1_copyWords 15 = .ok (.iload_n 2, 1) := by decide +kernel
theorem dX1_copyWords_16 : decode cX1_copyWords 16 = .ok (.aload_n 0, 1) := by decide +kernel
theorem dX1_copyWords_17 : decode cX1_copyWords 17 = .ok (.iload_n 2, 1) := by decide +kernel
theorem dX1_copyWords_18 : decode cX1_copyWords 18 = .ok (.iaload, 1) := by decide +kernel
theorem dX1_copyWords_19 : decode cX1_copyWords 19 = .ok (.iastore, 1) := by decide +kernel
theorem dX1_copyWords_20 : decode cX1_copyWords 20 = .ok (.iinc 2 1, 3) := by decide +kernel
theorem dX1_copyWords_23 : decode cX1_copyWords 23 = .ok (.goto (-21), 3) := by decide +kernel
theorem dX1_copyWords_26 : decode cX1_copyWords 26 = .ok (.return_, 1) := by decide +kernel
end
section
theorem dX2_init_0 : decode cX2_init 0 = .ok (.aload_n 0, 1) := by decide +kernel
theorem dX2_init_1 : decode cX2_init 1 = .ok (.invokespecial 3, 3) := by decide +kernel
theorem dX2_init_4 : decode cX2_init 4 = .ok (.aload_n 0, 1) := by decide +kernel
theorem dX2_init_5 : decode cX2_init 5 = .ok (.bipush 8, 2) := by decide +kernel
theorem dX2_init_7 : decode cX2_init 7 = .ok (.newarray .int, 2) := by decide +kernel
theorem dX2_init_9 : decode cX2_init 9 = .ok (.putfield 9, 3) := by decide +kernel
theorem dX2_init_12 : decode cX2_init 12 = .ok (.aload_n 0, 1) := by decide +kernel
theorem dX2_init_13 : decode cX2_init 13 = .ok (.bipush 16, 2) := by decide +kernel
theorem dX2_init_15 : decode cX2_init 15 = .ok (.newarray .int, 2) := by decide +kernel
theorem dX2_init_17 : decode cX2_init 17 = .ok (.putfield 15, 3) := by decide +kernel
theorem dX2_init_20 : decode cX2_init 20 = .ok (.aload_n 0, 1) := by decide +kernel
theorem dX2_init_21 : decode cX2_init 21 = .ok (.bipush 16, 2) := by decide +kernel
theorem dX2_init_23 : decode cX2_init 23 = .ok (.newarray .int, 2) := by decide +kernel
theorem dX2_init_25 : decode cX2_init 25 = .ok (.putfield 18, 3) := by decide +kernel
theorem dX2_init_28 : decode cX2_init 28 = .ok (.aload_n 0, 1) := by decide +kernel
theorem dX2_init_29 : decode cX2_init 29 = .ok (.bipush 16, 2) := by decide +kernel
theorem dX2_init_31 : decode cX2_init 31 = .ok (.newarray .int, 2) := by decide +kernel
theorem dX2_init_33 : decode cX2_init 33 = .ok (.putfield 21, 3) := by decide +kernel
theorem dX2_init_36 : decode cX2_init 36 = .ok (.aload_n 0, 1) := by decide +kernel
theorem dX2_init_37 : decode cX2_init 37 = .ok (.bipush 16, 2) := by decide +kernel
theorem dX2_init_39 : decode cX2_init 39 = .ok (.newarray .int, 2) := by decide +kernel
theorem dX2_init_41 : decode cX2_init 41 = .ok (.putfield 24, 3) := by decide +kernel
theorem dX2_init_44 : decode cX2_init 44 = .ok (.return_, 1) := by decide +kernel
theorem dX2_prepare_0 : decode cX2_prepare 0 = .ok (.iconst 0, 1) := by decide +kernel
theorem dX2_prepare_1 : decode cX2_prepare 1 = .ok (.istore 7, 2) := by decide +kernel
theorem dX2_prepare_3 : decode cX2_prepare 3 = .ok (.iload 7, 2) := by decide +kernel
theorem dX2_prepare_5 : decode cX2_prepare 5 = .ok (.bipush 8, 2) := by decide +kernel
theorem dX2_prepare_7 : decode cX2_prepare 7 = .ok (.if_icmp .ge 20, 3) := by decide +kernel
theorem dX2_prepare_10 : decode cX2_prepare 10 = .ok (.aload_n 0, 1) := by decide +kernel
theorem dX2_prepare_11 : decode cX2_prepare 11 = .ok (.getfield 9, 3) := by decide +kernel
theorem dX2_prepare_14 : decode cX2_prepare 14 = .ok (.iload 7, 2) := by decide +kernel
theorem dX2_prepare_16 : decode cX2_prepare 16 = .ok (.aload_n 1, 1) := by decide +kernel
theorem dX2_prepare_17 : decode cX2_prepare 17 = .ok (.iload 7, 2) := by decide +kernel
theorem dX2_prepare_19 : decode cX2_prepare 19 = .ok (.iaload, 1) := by decide +kernel
theorem dX2_prepare_20 : decode cX2_prepare 20 = .ok (.iastore, 1) := by decide +kernel
theorem dX2_prepare_21 : decode cX2_prepare 21 = .ok (.iinc 7 1, 3) := by decide +kernel
theorem dX2_prepare_24 : decode cX2_prepare 24 = .ok (.goto (-21), 3) := by decide +kernel
theorem dX2_prepare_27 : decode cX2_prepare 27 = .ok (.iconst 0, 1) := by decide +kernel
theorem dX2_prepare_28 : decode cX2_prepare 28 = .ok (.istore 7, 2) := by decide +kernel
theorem dX2_prepare_30 : decode cX2_prepare 30 = .ok (.iload 7, 2) := by decide +kernel
theorem dX2_prepare_32 : decode cX2_prepare 32 = .ok (.bipush 16, 2) := by decide +kernel
theorem dX2_prepare_34 : decode cX2_prepare 34 = .ok (.if_icmp .ge 20, 3) := by decide +kernel
theorem dX2_prepare_37 : decode cX2_prepare 37 = .ok (.aload_n 0, 1) := by decide +kernel
theorem dX2_prepare_38 : decode cX2_prepare 38 = .ok (.getfield 15, 3) := by decide +kernel
theorem dX2_prepare_41 : decode cX2_prepare 41 = .ok (.iload 7, 2) := by decide +kernel
theorem dX2_prepare_43 : decode cX2_prepare 43 = .ok (.aload_n 2, 1) := by decide +kernel
theorem dX2_prepare_44 : decode cX2_prepare 44 = .ok (.iload 7, 2) := by decide +kernel
theorem dX2_prepare_46 : decode cX2_prepare 46 = .ok (.iaload, 1) := by decide +kernel
theorem dX2_prepare_47 : decode cX2_prepare 47 = .ok (.iastore, 1) := by decide +kernel
theorem dX2_prepare_48 : decode cX2_prepare 48 = .ok (.iinc 7 1, 3) := by decide +kernel
theorem dX2_prepare_51 : decode cX2_prepare 51 = .ok (.goto (-21), 3) := by decide +kernel
theorem dX2_prepare_54 : decode cX2_prepare 54 = .ok (.aload_n 0, 1) := by decide +kernel
theorem dX2_prepare_55 : decode cX2_prepare 55 = .ok (.lload_n 3, 1) := by decide +kernel
theorem dX2_prepare_56 : decode cX2_prepare 56 = .ok (.putfield 27, 3) := by decide +kernel
theorem dX2_prepare_59 : decode cX2_prepare 59 = .ok (.aload_n 0, 1) := by decide +kernel
theorem dX2_prepare_60 : decode cX2_prepare 60 = .ok (.iload 5, 2) := by decide +kernel
theorem dX2_prepare_62 : decode cX2_prepare 62 = .ok (.putfield 31, 3) := by decide +kernel
theorem dX2_prepare_65 : decode cX2_prepare 65 = .ok (.aload_n 0, 1) := by decide +kernel
theorem dX2_prepare_66 : decode cX2_prepare 66 = .ok (.iload 6, 2) := by decide +kernel
theorem dX2_prepare_68 : decode cX2_prepare 68 = .ok (.putfield 35, 3) := by decide +kernel
theorem dX2_prepare_71 : decode cX2_prepare 71 = .ok (.return_, 1) := by decide +kernel
set_option maxRecDepth 20000 in
theorem ggX2_joinBehind_X2_prepare : GoodIn wsX2_joinBehind wsX2_prepare := goodIn_r _ [7, 8, 1, 9, 10, 11, 12, 13, 14, 15, 16, 17, 18, 19] (by decide +kernel) (by decide +kernel)
set_option maxRecDepth 20000 in
theorem gX2_joinBehind_X2_prepare : GoodIn wsX2_joinBehind (wsV RX2 38 RX2 yX2_prepare wsX2_prepare) := goodIn_app (goodIn_of _ (by decide +kernel)) ggX2_joinBehind_X2_prepare
theorem dX2_joinBehind_0 : decode cX2_joinBehind 0 = .ok (.iconst 0, 1) := by decide +kernel
theorem dX2_joinBehind_1 : decode cX2_joinBehind 1 = .ok (.istore 5, 2) := by decide +kernel
theorem dX2_joinBehind_3 : decode cX2_joinBehind 3 = .ok (.iload 5, 2) := by decide +kernel
theorem dX2_joinBehind_5 : decode cX2_joinBehind 5 = .ok (.bipush 8, 2) := by decide +kernel
theorem dX2_joinBehind_7 : decode cX2_joinBehind 7 = .ok (.if_icmp .ge 39, 3) := by decide +kernel
theorem dX2_joinBehind_10 : decode cX2_joinBehind 10 = .ok (.aload_n 0, 1) := by decide +kernel
theorem dX2_joinBehind_11 : decode cX2_joinBehind 11 = .ok (.getfield 15, 3) := by decide +kernel
theorem dX2_joinBehind_14 : decode cX2_joinBehind 14 = .ok (.iload 5, 2) := by decide +kernel
theorem dX2_joinBehind_16 : decode cX2_joinBehind 16 = .ok (.aload_n 1, 1) := by decide +kernel
theorem dX2_joinBehind_17 : decode cX2_joinBehind 17 = .ok (.iload_n 2, 1) := by decide +kernel
theorem dX2_joinBehind_18 : decode cX2_joinBehind 18 = .ok (.iload 5, 2) := by decide +kernel
theorem dX2_joinBehind_20 : decode cX2_joinBehind 20 = .ok (.iadd, 1) := by decide +kernel
theorem dX2_joinBehind_21 : decode cX2_joinBehind 21 = .ok (.iaload, 1) := by decide +kernel
theorem dX2_joinBehind_22 : decode cX2_joinBehind 22 = .ok (.iastore, 1) := by decide +kernel
theorem dX2_joinBehind_23 : decode cX2_joinBehind 23 = .ok (.aload_n 0, 1) := by decide +kernel
theorem dX2_joinBehind_24 : decode cX2_joinBehind 24 = .ok (.getfield 15, 3) := by decide +kernel
theorem dX2_joinBehind_27 : decode cX2_joinBehind 27 = .ok (.bipush 8, 2) := by decide +kernel
theorem dX2_joinBehind_29 : decode cX2_joinBehind 29 = .ok (.iload 5, 2) := by decide +kernel
theorem dX2_joinBehind_31 : decode cX2_joinBehind 31 = .ok (.iadd, 1) := by decide +kernel
theorem dX2_joinBehind_32 : decode cX2_joinBehind 32 = .ok (.aload_n 0, 1) := by decide +kernel
theorem dX2_joinBehind_33 : decode cX2_joinBehind 33 = .ok (.getfield 18, 3) := by decide +kernel
theorem dX2_joinBehind_36 : decode cX2_joinBehind 36 = .ok (.iload 5, 2) := by decide +kernel
theorem dX2_joinBehind_38 : decode cX2_joinBehind 38 = .ok (.iaload, 1) := by decide +kernel
theorem dX2_joinBehind_39 : decode cX2_joinBehind 39 = .ok (.iastore, 1) := by decide +kernel
theorem dX2_joinBehind_40 : decode cX2_joinBehind 40 = .ok (.iinc 5 1, 3) := by decide +kernel
theorem dX2_joinBehind_43 : decode cX2_joinBehind 43 = .ok (.goto (-40), 3) := by decide +kernel
theorem dX2_joinBehind_46 : decode cX2_joinBehind 46 = .ok (.aload_n 0, 1) := by decide +kernel
theorem dX2_joinBehind_47 : decode cX2_joinBehind 47 = .ok (.aload_n 3, 1) := by decide +kernel
theorem dX2_joinBehind_48 : decode cX2_joinBehind 48 = .ok (.aload_n 0, 1) := by decide +kernel
theorem dX2_joinBehind_49 : decode cX2_joinBehind 49 = .ok (.getfield 15, 3) := by decide +kernel
theorem dX2_joinBehind_52 : decode cX2_joinBehind 52 = .ok (.lconst 0, 1) := by decide +kernel
theorem dX2_joinBehind_53 : decode cX2_joinBehind 53 = .ok (.bipush 64, 2) := by decide +kernel
theorem dX2_joinBehind_55 : decode cX2_joinBehind 55 = .ok (.iload 4, 2) := by decide +kernel
theorem dX2_joinBehind_57 : decode cX2_joinBehind 57 = .ok (.iconst 4, 1) := by decide +kernel
theorem dX2_joinBehind_58 : decode cX2_joinBehind 58 = .ok (.iadd, 1) := by decide +kernel
theorem dX2_joinBehind_59 : decode cX2_joinBehind 59 = .ok (.invokevirtual 38, 3) := by decide +kernel
theorem dX2_joinBehind_62 : decode cX2_joinBehind 62 = .ok (.return_, 1) := by decide +kernel
set_option maxRecDepth 20000 in
theorem ggX2_joinBefore_X2_prepare : GoodIn wsX2_joinBefore wsX2_prepare := goodIn_r _ [7, 8, 1, 9, 10, 11, 12, 13, 14, 15, 16, 17, 18, 19] (by decide +kernel) (by decide +kernel)
set_option maxRecDepth 20000 in
theorem gX2_joinBefore_X2_prepare : GoodIn wsX2_joinBefore (wsV RX2 38 RX2 yX2_prepare wsX2_prepare) := goodIn_app (goodIn_of _ (by decide +kernel)) ggX2_joinBefore_X2_prepare
theorem dX2_joinBefore_0 : decode cX2_joinBefore 0 = .ok (.iconst 0, 1) := by decide +kernel
theorem dX2_joinBefore_1 : decode cX2_joinBefore 1 = .ok (.istore 5, 2) := by decide +kernel
theorem dX2_joinBefore_3 : decode cX2_joinBefore 3 = .ok (.iload 5, 2) := by decide +kernel
theorem dX2_joinBefore_5 : decode cX2_joinBefore 5 = .ok (.bipush 8, 2) := by decide +kernel
theorem dX2_joinBefore_7 : decode cX2_joinBefore 7 = .ok (.if_icmp .ge 39, 3) := by decide +kernel
theorem dX2_joinBefore_10 : decode cX2_joinBefore 10 = .ok (.aload_n 0, 1) := by decide +kernel
theorem dX2_joinBefore_11 : decode cX2_joinBefore 11 = .ok (.getfield 15, 3) := by decide +kernel
theorem dX2_joinBefore_14 : decode cX2_joinBefore 14 = .ok (.iload 5, 2) := by decide +kernel
theorem dX2_joinBefore_16 : decode cX2_joinBefore 16 = .ok (.aload_n 0, 1) := by decide +kernel
theorem dX2_joinBefore_17 : decode cX2_joinBefore 17 = .ok (.getfield 18, 3) := by decide +kernel
theorem dX2_joinBefore_20 : decode cX2_joinBefore 20 = .ok (.iload 5, 2) := by decide +kernel
theorem dX2_joinBefore_22 : decode cX2_joinBefore 22 = .ok (.iaload, 1) := by decide +kernel
theorem dX2_joinBefore_23 : decode cX2_joinBefore 23 = .ok (.iastore, 1) := by decide +kernel
theorem dX2_joinBefore_24 : decode cX2_joinBefore 24 = .ok (.aload_n 0, 1) := by decide +kernel
theorem dX2_joinBefore_25 : decode cX2_joinBefore 25 = .ok (.getfield 15, 3) := by decide +kernel
theorem dX2_joinBefore_28 : decode cX2_joinBefore 28 = .ok (.bipush 8, 2) := by decide +kernel
theorem dX2_joinBefore_30 : decode cX2_joinBefore 30 = .ok (.iload 5, 2) := by decide +kernel
theorem dX2_joinBefore_32 : decode cX2_joinBefore 32 = .ok (.iadd, 1) := by decide +kernel
theorem dX2_joinBefore_33 : decode cX2_joinBefore 33 = .ok (.aload_n 1, 1) := by decide +kernel
theorem dX2_joinBefore_34 : decode cX2_joinBefore 34 = .ok (.iload_n 2, 1) := by decide +kernel
theorem dX2_joinBefore_35 : decode cX2_joinBefore 35 = .ok (.iload 5, 2) := by decide +kernel
theorem dX2_joinBefore_37 : decode cX2_joinBefore 37 = .ok (.iadd, 1) := by decide +kernel
theorem dX2_joinBefore_38 : decode cX2_joinBefore 38 = .ok (.iaload, 1) := by decide +kernel
theorem dX2_joinBefore_39 : decode cX2_joinBefore 39 = .ok (.iastore, 1) := by decide +kernel
theorem dX2_joinBefore_40 : decode cX2_joinBefore 40 = .ok (.iinc 5 1, 3) := by decide +kernel
theorem dX2_joinBefore_43 : decode cX2_joinBefore 43 = .ok (.goto (-40), 3) := by decide +kernel
theorem dX2_joinBefore_46 : decode cX2_joinBefore 46 = .ok (.aload_n 0, 1) := by decide +kernel
theorem dX2_joinBefore_47 : decode cX2_joinBefore 47 = .ok (.aload_n 3, 1) := by decide +kernel
theorem dX2_joinBefore_48 : decode cX2_joinBefore 48 = .ok (.aload_n 0, 1) := by decide +kernel
theorem dX2_joinBefore_49 : decode cX2_joinBefore 49 = .ok (.getfield 15, 3) := by decide +kernel
theorem dX2_joinBefore_52 : decode cX2_joinBefore 52 = .ok (.lconst 0, 1) := by decide +kernel
theorem dX2_joinBefore_53 : decode cX2_joinBefore 53 = .ok (.bipush 64, 2) := by decide +kernel
theorem dX2_joinBefore_55 : decode cX2_joinBefore 55 = .ok (.iload 4, 2) := by decide +kernel
theorem dX2_joinBefore_57 : decode cX2_joinBefore 57 = .ok (.iconst 4, 1) := by decide +kernel
theorem dX2_joinBefore_58 : decode cX2_joinBefore 58 = .ok (.iadd, 1) := by decide +kernel
theorem dX2_joinBefore_59 : decode cX2_joinBefore 59 = .ok (.invokevirtual 38, 3) := by decide +kernel
theorem dX2_joinBefore_62 : decode cX2_joinBefore 62 = .ok (.return_, 1) := by decide +kernel
theorem dX2_makeRoot_0 : decode cX2_makeRoot 0 = .ok (.aload_n 0, 1) := by decide +kernel
theorem dX2_makeRoot_1 : decode cX2_makeRoot 1 = .ok (.dup, 1) := by decide +kernel
theorem dX2_makeRoot_2 : decode cX2_makeRoot 2 = .ok (.getfield 35, 3) := by decide +kernel
theorem dX2_makeRoot_5 : decode cX2_makeRoot 5 = .ok (.bipush 8, 2) := by decide +kernel
theorem dX2_makeRoot_7 : decode cX2_makeRoot 7 = .ok (.ior, 1) := by decide +kernel
theorem dX2_makeRoot_8 : decode cX2_makeRoot 8 = .ok (.putfield 35, 3) := by decide +kernel
theorem dX2_makeRoot_11 : decode cX2_makeRoot 11 = .ok (.return_, 1) := by decide +kernel
theorem dX2_writeChain_0 : decode cX2_writeChain 0 = .ok (.iconst 0, 1) := by decide +kernel
theorem dX2_writeChain_1 : decode cX2_writeChain 1 = .ok (.istore_n 3, 1) := by decide +kernel
theorem dX2_writeChain_2 : decode cX2_writeChain 2 = .ok (.iload_n 3, 1) := by decide +kernel
theorem dX2_writeChain_3 : decode cX2_writeChain 3 = .ok (.bipush 8, 2) := by decide +kernel
theorem dX2_writeChain_5 : decode cX2_writeChain 5 = .ok (.if_icmp .ge 20, 3) := by decide +kernel
theorem dX2_writeChain_8 : decode cX2_writeChain 8 = .ok (.aload_n 1, 1) := by decide +kernel
theorem dX2_writeChain_9 : decode cX2_writeChain 9 = .ok (.iload_n 2, 1) := by decide +kernel
theorem dX2_writeChain_10 : decode cX2_writeChain 10 = .ok (.iload_n 3, 1) := by decide +kernel
theorem dX2_writeChain_11 : decode cX2_writeChain 11 = .ok (.iadd, 1) := by decide +kernel
theorem dX2_writeChain_12 : decode cX2_writeChain 12 = .ok (.aload_n 0, 1) := by decide +kernel
theorem dX2_writeChain_13 : decode cX2_writeChain 13 = .ok (.getfield 18, 3) := by decide +kernel
theorem dX2_writeChain_16 : decode cX2_writeChain 16 = .ok (.iload_n 3, 1) := by decide +kernel
theorem dX2_writeChain_17 : decode cX2_writeChain 17 = .ok (.iaload, 1) := by decide +kernel
theorem dX2_writeChain_18 : decode cX2_writeChain 18 = .ok (.iastore, 1) := by decide +kernel
theorem dX2_writeChain_19 : decode cX2_writeChain 19 = .ok (.iinc 3 1, 3) := by decide +kernel
theorem dX2_writeChain_22 : decode cX2_writeChain 22 = .ok (.goto (-20), 3) := by decide +kernel
theorem dX2_writeChain_25 : decode cX2_writeChain 25 = .ok (.return_, 1) := by decide +kernel
set_option maxRecDepth 20000 in
theorem ggX2_writeOutput_X0_keepFirst : GoodIn wsX2_writeOutput wsX0_keepFirst := goodIn_r _ [7, 8, 56, 57] (by decide +kernel) (by decide +kernel)
set_option maxRecDepth 20000 in
theorem gX2_writeOutput_X0_keepFirst : GoodIn wsX2_writeOutput (wsV RX2 42 RX0 yX0_keepFirst wsX0_keepFirst) := goodIn_app (goodIn_of _ (by decide +kernel)) ggX2_writeOutput_X0_keepFirst
set_option maxRecDepth 20000 in
theorem ggX2_writeOutput_X2_makeRoot : GoodIn wsX2_writeOutput wsX2_makeRoot := goodIn_r _ [13, 14, 48, 49, 50, 51, 52, 53, 54, 55] (by decide +kernel) (by decide +kernel)
set_option maxRecDepth 20000 in
theorem gX2_writeOutput_X2_makeRoot : GoodIn wsX2_writeOutput (wsV RX2 48 RX2 yX2_makeRoot wsX2_makeRoot) := goodIn_app (goodIn_of _ (by decide +kernel)) ggX2_writeOutput_X2_makeRoot
set_option maxRecDepth 20000 in
theorem ggX2_writeOutput_X2_run : GoodIn wsX2_writeOutput wsX2_run := goodIn_r _ [18, 19, 20, 21, 22, 23, 24, 12, 25, 26, 2, 27, 14, 28, 29, 30, 31, 32, 33, 34, 35, 36, 37, 38, 48, 49, 50, 51, 52, 53, 54, 55] (by decide +kernel) (by decide +kernel)
set_option maxRecDepth 20000 in
theorem gX2_writeOutput_X2_run : GoodIn wsX2_writeOutput (wsV RX2 53 RX2 yX2_run wsX2_run) := goodIn_app (goodIn_of _ (by decide +kernel)) ggX2_writeOutput_X2_run
set_option maxRecDepth 20000 in
theorem ggX2_writeOutput_X2_outputByte : GoodIn wsX2_writeOutput wsX2_outputByte := goodIn_r _ [42, 20, 48, 49, 50, 51, 52, 53, 54, 55] (by decide +kernel) (by decide +kernel)
set_option maxRecDepth 20000 in
theorem gX2_writeOutput_X2_outputByte : GoodIn wsX2_writeOutput (wsV RX2 56 RX2 yX2_outputByte wsX2_outputByte) := goodIn_app (goodIn_of _ (by decide +kernel)) ggX2_writeOutput_X2_outputByte
set_option maxRecDepth 20000 in
theorem ggX2_writeOutput_X0_append : GoodIn wsX2_writeOutput wsX0_append := goodIn_r _ [46, 8, 47, 56, 57] (by decide +kernel) (by decide +kernel)
set_option maxRecDepth 20000 in
theorem gX2_writeOutput_X0_append : GoodIn wsX2_writeOutput (wsV RX2 59 RX0 yX0_append wsX0_append) := goodIn_app (goodIn_of _ (by decide +kernel)) ggX2_writeOutput_X0_append
theorem dX2_writeOutput_0 : decode cX2_writeOutput 0 = .ok (.aload_n 1, 1) := by decide +kernel
theorem dX2_writeOutput_1 : decode cX2_writeOutput 1 = .ok (.iconst 0, 1) := by decide +kernel
theorem dX2_writeOutput_2 : decode cX2_writeOutput 2 = .ok (.invokevirtual 42, 3) := by decide +kernel
theorem dX2_writeOutput_5 : decode cX2_writeOutput 5 = .ok (.pop, 1) := by decide +kernel
theorem dX2_writeOutput_6 : decode cX2_writeOutput 6 = .ok (.aload_n 0, 1) := by decide +kernel
theorem dX2_writeOutput_7 : decode cX2_writeOutput 7 = .ok (.invokevirtual 48, 3) := by decide +kernel
theorem dX2_writeOutput_10 : decode cX2_writeOutput 10 = .ok (.iconst 0, 1) := by decide +kernel
theorem dX2_writeOutput_11 : decode cX2_writeOutput 11 = .ok (.istore 5, 2) := by decide +kernel
theorem dX2_writeOutput_13 : decode cX2_writeOutput 13 = .ok (.iload 5, 2) := by decide +kernel
theorem dX2_writeOutput_15 : decode cX2_writeOutput 15 = .ok (.iload_n 2, 1) := by decide +kernel
theorem dX2_writeOutput_16 : decode cX2_writeOutput 16 = .ok (.if_icmp .ge 57, 3) := by decide +kernel
theorem dX2_writeOutput_19 : decode cX2_writeOutput 19 = .ok (.lload_n 3, 1) := by decide +kernel
theorem dX2_writeOutput_20 : decode cX2_writeOutput 20 = .ok (.iload 5, 2) := by decide +kernel
theorem dX2_writeOutput_22 : decode cX2_writeOutput 22 = .ok (.i2l, 1) := by decide +kernel
theorem dX2_writeOutput_23 : decode cX2_writeOutput 23 = .ok (.ladd, 1) := by decide +kernel
theorem dX2_writeOutput_24 : decode cX2_writeOutput 24 = .ok (.ldc2_w 51, 3) := by decide +kernel
theorem dX2_writeOutput_27 : decode cX2_writeOutput 27 = .ok (.land, 1) := by decide +kernel
theorem dX2_writeOutput_28 : decode cX2_writeOutput 28 = .ok (.l2i, 1) := by decide +kernel
theorem dX2_writeOutput_29 : decode cX2_writeOutput 29 = .ok (.istore 6, 2) := by decide +kernel
theorem dX2_writeOutput_31 : decode cX2_writeOutput 31 = .ok (.iload 5, 2) := by decide +kernel
theorem dX2_writeOutput_33 : decode cX2_writeOutput 33 = .ok (.ifCond .eq 8, 3) := by decide +kernel
theorem dX2_writeOutput_36 : decode cX2_writeOutput 36 = .ok (.iload 6, 2) := by decide +kernel
theorem dX2_writeOutput_38 : decode cX2_writeOutput 38 = .ok (.ifCond .ne 19, 3) := by decide +kernel
theorem dX2_writeOutput_41 : decode cX2_writeOutput 41 = .ok (.aload_n 0, 1) := by decide +kernel
theorem dX2_writeOutput_42 : decode cX2_writeOutput 42 = .ok (.lload_n 3, 1) := by decide +kernel
theorem dX2_writeOutput_43 : decode cX2_writeOutput 43 = .ok (.iload 5, 2) := by decide +kernel
theorem dX2_writeOutput_45 : decode cX2_writeOutput 45 = .ok (.i2l, 1) := by decide +kernel
theorem dX2_writeOutput_46 : decode cX2_writeOutput 46 = .ok (.ladd, 1) := by decide +kernel
theorem dX2_writeOutput_47 : decode cX2_writeOutput 47 = .ok (.bipush 6, 2) := by decide +kernel
theorem dX2_writeOutput_49 : decode cX2_writeOutput 49 = .ok (.lushr, 1) := by decide +kernel
theorem dX2_writeOutput_50 : decode cX2_writeOutput 50 = .ok (.putfield 27, 3) := by decide +kernel
theorem dX2_writeOutput_53 : decode cX2_writeOutput 53 = .ok (.aload_n 0, 1) := by decide +kernel
theorem dX2_writeOutput_54 : decode cX2_writeOutput 54 = .ok (.invokevirtual 53, 3) := by decide +kernel
theorem dX2_writeOutput_57 : decode cX2_writeOutput 57 = .ok (.aload_n 1, 1) := by decide +kernel
theorem dX2_writeOutput_58 : decode cX2_writeOutput 58 = .ok (.aload_n 0, 1) := by decide +kernel
theorem dX2_writeOutput_59 : decode cX2_writeOutput 59 = .ok (.iload 6, 2) := by decide +kernel
theorem dX2_writeOutput_61 : decode cX2_writeOutput 61 = .ok (.invokevirtual 56, 3) := by decide +kernel
theorem dX2_writeOutput_64 : decode cX2_writeOutput 64 = .ok (.invokevirtual 59, 3) := by decide +kernel
theorem dX2_writeOutput_67 : decode cX2_writeOutput 67 = .ok (.iinc 5 1, 3) := by decide +kernel
theorem dX2_writeOutput_70 : decode cX2_writeOutput 70 = .ok (.goto (-57), 3) := by decide +kernel
theorem dX2_writeOutput_73 : decode cX2_writeOutput 73 = .ok (.return_, 1) := by decide +kernel
set_option maxRecDepth 20000 in
theorem ggX2_rootBeginsWith_X2_makeRoot : GoodIn wsX2_rootBeginsWith wsX2_makeRoot := goodIn_r _ [5, 6, 43, 44, 45, 46, 47, 48, 49, 50] (by decide +kernel) (by decide +kernel)
set_option maxRecDepth 20000 in
theorem gX2_rootBeginsWith_X2_makeRoot : GoodIn wsX2_rootBeginsWith (wsV RX2 48 RX2 yX2_makeRoot wsX2_makeRoot) := goodIn_app (goodIn_of _ (by decide +kernel)) ggX2_rootBeginsWith_X2_makeRoot
set_option maxRecDepth 20000 in
theorem ggX2_rootBeginsWith_X2_run : GoodIn wsX2_rootBeginsWith wsX2_run := goodIn_r _ [10, 11, 12, 13, 14, 15, 16, 4, 17, 18, 19, 20, 6, 21, 22, 23, 24, 25, 26, 27, 28, 29, 30, 31, 43, 44, 45, 46, 47, 48, 49, 50] (by decide +kernel) (by decide +kernel)
set_option maxRecDepth 20000 in
theorem gX2_rootBeginsWith_X2_run : GoodIn wsX2_rootBeginsWith (wsV RX2 53 RX2 yX2_run wsX2_run) := goodIn_app (goodIn_of _ (by decide +kernel)) ggX2_rootBeginsWith_X2_run
set_option maxRecDepth 20000 in
theorem ggX2_rootBeginsWith_X2_outputByte : GoodIn wsX2_rootBeginsWith wsX2_outputByte := goodIn_r _ [35, 12, 43, 44, 45, 46, 47, 48, 49, 50] (by decide +kernel) (by decide +kernel)
set_option maxRecDepth 20000 in
theorem gX2_rootBeginsWith_X2_outputByte : GoodIn wsX2_rootBeginsWith (wsV RX2 56 RX2 yX2_outputByte wsX2_outputByte) := goodIn_app (goodIn_of _ (by decide +kernel)) ggX2_rootBeginsWith_X2_outputByte
set_option maxRecDepth 20000 in
theorem ggX2_rootBeginsWith_X0_byteAt : GoodIn wsX2_rootBeginsWith wsX0_byteAt := goodIn_r _ [40, 41, 42, 51, 52] (by decide +kernel) (by decide +kernel)
set_option maxRecDepth 20000 in
theorem gX2_rootBeginsWith_X0_byteAt : GoodIn wsX2_rootBeginsWith (wsV RX2 63 RX0 yX0_byteAt wsX0_byteAt) := goodIn_app (goodIn_of _ (by decide +kernel)) ggX2_rootBeginsWith_X0_byteAt
theorem dX2_rootBeginsWith_0 : decode cX2_rootBeginsWith 0 = .ok (.aload_n 0, 1) := by decide +kernel
theorem dX2_rootBeginsWith_1 : decode cX2_rootBeginsWith 1 = .ok (.invokevirtual 48, 3) := by decide +kernel
theorem dX2_rootBeginsWith_4 : decode cX2_rootBeginsWith 4 = .ok (.aload_n 0, 1) := by decide +kernel
theorem dX2_rootBeginsWith_5 : decode cX2_rootBeginsWith 5 = .ok (.invokevirtual 53, 3) := by decide +kernel
theorem dX2_rootBeginsWith_8 : decode cX2_rootBeginsWith 8 = .ok (.iconst 0, 1) := by decide +kernel
theorem dX2_rootBeginsWith_9 : decode cX2_rootBeginsWith 9 = .ok (.istore_n 2, 1) := by decide +kernel
theorem dX2_rootBeginsWith_10 : decode cX2_rootBeginsWith 10 = .ok (.iload_n 2, 1) := by decide +kernel
theorem dX2_rootBeginsWith_11 : decode cX2_rootBeginsWith 11 = .ok (.bipush 32, 2) := by decide +kernel
theorem dX2_rootBeginsWith_13 : decode cX2_rootBeginsWith 13 = .ok (.if_icmp .ge 24, 3) := by decide +kernel
theorem dX2_rootBeginsWith_16 : decode cX2_rootBeginsWith 16 = .ok (.aload_n 0, 1) := by decide +kernel
theorem dX2_rootBeginsWith_17 : decode cX2_rootBeginsWith 17 = .ok (.iload_n 2, 1) := by decide +kernel
theorem dX2_rootBeginsWith_18 : decode cX2_rootBeginsWith 18 = .ok (.invokevirtual 56, 3) := by decide +kernel
theorem dX2_rootBeginsWith_21 : decode cX2_rootBeginsWith 21 = .ok (.aload_n 1, 1) := by decide +kernel
theorem dX2_rootBeginsWith_22 : decode cX2_rootBeginsWith 22 = .ok (.iload_n 2, 1) := by decide +kernel
theorem dX2_rootBeginsWith_23 : decode cX2_rootBeginsWith 23 = .ok (.invokevirtual 63, 3) := by decide +kernel
theorem dX2_rootBeginsWith_26 : decode cX2_rootBeginsWith 26 = .ok (.if_icmp .eq 5, 3) := by decide +kernel
theorem dX2_rootBeginsWith_29 : decode cX2_rootBeginsWith 29 = .ok (.iconst 0, 1) := by decide +kernel
theorem dX2_rootBeginsWith_30 : decode cX2_rootBeginsWith 30 = .ok (.ireturn, 1) := by decide +kernel
theorem dX2_rootBeginsWith_31 : decode cX2_rootBeginsWith 31 = .ok (.iinc 2 1, 3) := by decide +kernel
theorem dX2_rootBeginsWith_34 : decode cX2_rootBeginsWith 34 = .ok (.goto (-24), 3) := by decide +kernel
theorem dX2_rootBeginsWith_37 : decode cX2_rootBeginsWith 37 = .ok (.iconst 1, 1) := by decide +kernel
theorem dX2_rootBeginsWith_38 : decode cX2_rootBeginsWith 38 = .ok (.ireturn, 1) := by decide +kernel
theorem dX2_outputByte_0 : decode cX2_outputByte 0 = .ok (.aload_n 0, 1) := by decide +kernel
theorem dX2_outputByte_1 : decode cX2_outputByte 1 = .ok (.getfield 18, 3) := by decide +kernel
theorem dX2_outputByte_4 : decode cX2_outputByte 4 = .ok (.iload_n 1, 1) := by decide +kernel
theorem dX2_outputByte_5 : decode cX2_outputByte 5 = .ok (.iconst 2, 1) := by decide +kernel
theorem dX2_outputByte_6 : decode cX2_outputByte 6 = .ok (.ishr, 1) := by decide +kernel
theorem dX2_outputByte_7 : decode cX2_outputByte 7 = .ok (.iaload, 1) := by decide +kernel
theorem dX2_outputByte_8 : decode cX2_outputByte 8 = .ok (.bipush 8, 2) := by decide +kernel
theorem dX2_outputByte_10 : decode cX2_outputByte 10 = .ok (.iload_n 1, 1) := by decide +kernel
theorem dX2_outputByte_11 : decode cX2_outputByte 11 = .ok (.iconst 3, 1) := by decide +kernel
theorem dX2_outputByte_12 : decode cX2_outputByte 12 = .ok (.iand, 1) := by decide +kernel
theorem dX2_outputByte_13 : decode cX2_outputByte 13 = .ok (.imul, 1) := by decide +kernel
theorem dX2_outputByte_14 : decode cX2_outputByte 14 = .ok (.iushr, 1) := by decide +kernel
theorem dX2_outputByte_15 : decode cX2_outputByte 15 = .ok (.sipush 255, 3) := by decide +kernel
theorem dX2_outputByte_18 : decode cX2_outputByte 18 = .ok (.iand, 1) := by decide +kernel
theorem dX2_outputByte_19 : decode cX2_outputByte 19 = .ok (.ireturn, 1) := by decide +kernel
set_option maxRecDepth 20000 in
theorem ggX2_run_X2_fillIn : GoodIn wsX2_run wsX2_fillIn := goodIn_r _ [8, 2, 3, 9, 10, 11, 12, 1, 13, 24, 25, 26, 27, 28, 29, 30, 31] (by decide +kernel) (by decide +kernel)
set_option maxRecDepth 20000 in
theorem gX2_run_X2_fillIn : GoodIn wsX2_run (wsV RX2 66 RX2 yX2_fillIn wsX2_fillIn) := goodIn_app (goodIn_of _ (by decide +kernel)) ggX2_run_X2_fillIn
set_option maxRecDepth 20000 in
theorem ggX2_run_X2_turn : GoodIn wsX2_run wsX2_turn := goodIn_r _ [17, 2, 24, 25, 26, 27, 28, 29, 30, 31] (by decide +kernel) (by decide +kernel)
set_option maxRecDepth 20000 in
theorem gX2_run_X2_turn : GoodIn wsX2_run (wsV RX2 69 RX2 yX2_turn wsX2_turn) := goodIn_app (goodIn_of _ (by decide +kernel)) ggX2_run_X2_turn
set_option maxRecDepth 20000 in
theorem ggX2_run_X2_reorder : GoodIn wsX2_run wsX2_reorder := goodIn_r _ [21, 22, 1, 23, 24, 25, 26, 27, 28, 29, 30, 31] (by decide +kernel) (by decide +kernel)
set_option maxRecDepth 20000 in
theorem gX2_run_X2_reorder : GoodIn wsX2_run (wsV RX2 73 RX2 yX2_reorder wsX2_reorder) := goodIn_app (goodIn_of _ (by decide +kernel)) ggX2_run_X2_reorder
theorem dX2_run_0 : decode cX2_run 0 = .ok (.aload_n 0, 1) := by decide +kernel
theorem dX2_run_1 : decode cX2_run 1 = .ok (.invokevirtual 66, 3) := by decide +kernel
theorem dX2_run_4 : decode cX2_run 4 = .ok (.iconst 0, 1) := by decide +kernel
theorem dX2_run_5 : decode cX2_run 5 = .ok (.istore_n 1, 1) := by decide +kernel
theorem dX2_run_6 : decode cX2_run 6 = .ok (.iload_n 1, 1) := by decide +kernel
theorem dX2_run_7 : decode cX2_run 7 = .ok (.bipush 7, 2) := by decide +kernel
theorem dX2_run_9 : decode cX2_run 9 = .ok (.if_icmp .ge 203, 3) := by decide +kernel
theorem dX2_run_12 : decode cX2_run 12 = .ok (.aload_n 0, 1) := by decide +kernel
theorem dX2_run_13 : decode cX2_run 13 = .ok (.iconst 0, 1) := by decide +kernel
theorem dX2_run_14 : decode cX2_run 14 = .ok (.iconst 4, 1) := by decide +kernel
theorem dX2_run_15 : decode cX2_run 15 = .ok (.bipush 8, 2) := by decide +kernel
theorem dX2_run_17 : decode cX2_run 17 = .ok (.bipush 12, 2) := by decide +kernel
theorem dX2_run_19 : decode cX2_run 19 = .ok (.aload_n 0, 1) := by decide +kernel
theorem dX2_run_20 : decode cX2_run 20 = .ok (.getfield 21, 3) := by decide +kernel
theorem dX2_run_23 : decode cX2_run 23 = .ok (.iconst 0, 1) := by decide +kernel
theorem dX2_run_24 : decode cX2_run 24 = .ok (.iaload, 1) := by decide +kernel
theorem dX2_run_25 : decode cX2_run 25 = .ok (.aload_n 0, 1) := by decide +kernel
theorem dX2_run_26 : decode cX2_run 26 = .ok (.getfield 21, 3) := by decide +kernel
theorem dX2_run_29 : decode cX2_run 29 = .ok (.iconst 1, 1) := by decide +kernel
theorem dX2_run_30 : decode cX2_run 30 = .ok (.iaload, 1) := by decide +kernel
theorem dX2_run_31 : decode cX2_run 31 = .ok (.invokevirtual 69, 3) := by decide +kernel
theorem dX2_run_34 : decode cX2_run 34 = .ok (.aload_n 0, 1) := by decide +kernel
theorem dX2_run_35 : decode cX2_run 35 = .ok (.iconst 1, 1) := by decide +kernel
theorem dX2_run_36 : decode cX2_run 36 = .ok (.iconst 5, 1) := by decide +kernel
theorem dX2_run_37 : decode cX2_run 37 = .ok (.bipush 9, 2) := by decide +kernel
theorem dX2_run_39 : decode cX2_run 39 = .ok (.bipush 13, 2) := by decide +kernel
theorem dX2_run_41 : decode cX2_run 41 = .ok (.aload_n 0, 1) := by decide +kernel
theorem dX2_run_42 : decode cX2_run 42 = .ok (.getfield 21, 3) := by decide +kernel
theorem dX2_run_45 : decode cX2_run 45 = .ok (.iconst 2, 1) := by decide +kernel
theorem dX2_run_46 : decode cX2_run 46 = .ok (.iaload, 1) := by decide +kernel
theorem dX2_run_47 : decode cX2_run 47 = .ok (.aload_n 0, 1) := by decide +kernel
theorem dX2_run_48 : decode cX2_run 48 = .ok (.getfield 21, 3) := by decide +kernel
theorem dX2_run_51 : decode cX2_run 51 = .ok (.iconst 3, 1) := by decide +kernel
theorem dX2_run_52 : decode cX2_run 52 = .ok (.iaload, 1) := by decide +kernel
theorem dX2_run_53 : decode cX2_run 53 = .ok (.invokevirtual 69, 3) := by decide +kernel
theorem dX2_run_56 : decode cX2_run 56 = .ok (.aload_n 0, 1) := by decide +kernel
theorem dX2_run_57 : decode cX2_run 57 = .ok (.iconst 2, 1) := by decide +kernel
theorem dX2_run_58 : decode cX2_run 58 = .ok (.bipush 6, 2) := by decide +kernel
theorem dX2_run_60 : decode cX2_run 60 = .ok (.bipush 10, 2) := by decide +kernel
theorem dX2_run_62 : decode cX2_run 62 = .ok (.bipush 14, 2) := by decide +kernel
theorem dX2_run_64 : decode cX2_run 64 = .ok (.aload_n 0, 1) := by decide +kernel
theorem dX2_run_65 : decode cX2_run 65 = .ok (.getfield 21, 3) := by decide +kernel
theorem dX2_run_68 : decode cX2_run 68 = .ok (.iconst 4, 1) := by decide +kernel
theorem dX2_run_69 : decode cX2_run 69 = .ok (.iaload, 1) := by decide +kernel
theorem dX2_run_70 : decode cX2_run 70 = .ok (.aload_n 0, 1) := by decide +kernel
theorem dX2_run_71 : decode cX2_run 71 = .ok (.getfield 21, 3) := by decide +kernel
theorem dX2_run_74 : decode cX2_run 74 = .ok (.iconst 5, 1) := by decide +kernel
theorem dX2_run_75 : decode cX2_run 75 = .ok (.iaload, 1) := by decide +kernel
theorem dX2_run_76 : decode cX2_run 76 = .ok (.invokevirtual 69, 3) := by decide +kernel
theorem dX2_run_79 : decode cX2_run 79 = .ok (.aload_n 0, 1) := by decide +kernel
theorem dX2_run_80 : decode cX2_run 80 = .ok (.iconst 3, 1) := by decide +kernel
theorem dX2_run_81 : decode cX2_run 81 = .ok (.bipush 7, 2) := by decide +kernel
theorem dX2_run_83 : decode cX2_run 83 = .ok (.bipush 11, 2) := by decide +kernel
theorem dX2_run_85 : decode cX2_run 85 = .ok (.bipush 15, 2) := by decide +kernel
theorem dX2_run_87 : decode cX2_run 87 = .ok (.aload_n 0, 1) := by decide +kernel
theorem dX2_run_88 : decode cX2_run 88 = .ok (.getfield 21, 3) := by decide +kernel
theorem dX2_run_91 : decode cX2_run 91 = .ok (.bipush 6, 2) := by decide +kernel
theorem dX2_run_93 : decode cX2_run 93 = .ok (.iaload, 1) := by decide +kernel
theorem dX2_run_94 : decode cX2_run 94 = .ok (.aload_n 0, 1) := by decide +kernel
theorem dX2_run_95 : decode cX2_run 95 = .ok (.getfield 21, 3) := by decide +kernel
theorem dX2_run_98 : decode cX2_run 98 = .ok (.bipush 7, 2) := by decide +kernel
theorem dX2_run_100 : decode cX2_run 100 = .ok (.iaload, 1) := by decide +kernel
theorem dX2_run_101 : decode cX2_run 101 = .ok (.invokevirtual 69, 3) := by decide +kernel
theorem dX2_run_104 : decode cX2_run 104 = .ok (.aload_n 0, 1) := by decide +kernel
theorem dX2_run_105 : decode cX2_run 105 = .ok (.iconst 0, 1) := by decide +kernel
theorem dX2_run_106 : decode cX2_run 106 = .ok (.iconst 5, 1) := by decide +kernel
theorem dX2_run_107 : decode cX2_run 107 = .ok (.bipush 10, 2) := by decide +kernel
theorem dX2_run_109 : decode cX2_run 109 = .ok (.bipush 15, 2) := by decide +kernel
theorem dX2_run_111 : decode cX2_run 111 = .ok (.aload_n 0, 1) := by decide +kernel
theorem dX2_run_112 : decode cX2_run 112 = .ok (.getfield 21, 3) := by decide +kernel
theorem dX2_run_115 : decode cX2_run 115 = .ok (.bipush 8, 2) := by decide +kernel
theorem dX2_run_117 : decode cX2_run 117 = .ok (.iaload, 1) := by decide +kernel
theorem dX2_run_118 : decode cX2_run 118 = .ok (.aload_n 0, 1) := by decide +kernel
theorem dX2_run_119 : decode cX2_run 119 = .ok (.getfield 21, 3) := by decide +kernel
theorem dX2_run_122 : decode cX2_run 122 = .ok (.bipush 9, 2) := by decide +kernel
theorem dX2_run_124 : decode cX2_run 124 = .ok (.iaload, 1) := by decide +kernel
theorem dX2_run_125 : decode cX2_run 125 = .ok (.invokevirtual 69, 3) := by decide +kernel
theorem dX2_run_128 : decode cX2_run 128 = .ok (.aload_n 0, 1) := by decide +kernel
theorem dX2_run_129 : decode cX2_run 129 = .ok (.iconst 1, 1) := by decide +kernel
theorem dX2_run_130 : decode cX2_run 130 = .ok (.bipush 6, 2) := by decide +kernel
theorem dX2_run_132 : decode cX2_run 132 = .ok (.bipush 11, 2) := by decide +kernel
theorem dX2_run_134 : decode cX2_run 134 = .ok (.bipush 12, 2) := by decide +kernel
theorem dX2_run_136 : decode cX2_run 136 = .ok (.aload_n 0, 1) := by decide +kernel
theorem dX2_run_137 : decode cX2_run 137 = .ok (.getfield 21, 3) := by decide +kernel
theorem dX2_run_140 : decode cX2_run 140 = .ok (.bipush 10, 2) := by decide +kernel
theorem dX2_run_142 : decode cX2_run 142 = .ok (.iaload, 1) := by decide +kernel
theorem dX2_run_143 : decode cX2_run 143 = .ok (.aload_n 0, 1) := by decide +kernel
theorem dX2_run_144 : decode cX2_run 144 = .ok (.getfield 21, 3) := by decide +kernel
theorem dX2_run_147 : decode cX2_run 147 = .ok (.bipush 11, 2) := by decide +kernel
theorem dX2_run_149 : decode cX2_run 149 = .ok (.iaload, 1) := by decide +kernel
theorem dX2_run_150 : decode cX2_run 150 = .ok (.invokevirtual 69, 3) := by decide +kernel
theorem dX2_run_153 : decode cX2_run 153 = .ok (.aload_n 0, 1) := by decide +kernel
theorem dX2_run_154 : decode cX2_run 154 = .ok (.iconst 2, 1) := by decide +kernel
theorem dX2_run_155 : decode cX2_run 155 = .ok (.bipush 7, 2) := by decide +kernel
theorem dX2_run_157 : decode cX2_run 157 = .ok (.bipush 8, 2) := by decide +kernel
theorem dX2_run_159 : decode cX2_run 159 = .ok (.bipush 13, 2) := by decide +kernel
theorem dX2_run_161 : decode cX2_run 161 = .ok (.aload_n 0, 1) := by decide +kernel
theorem dX2_run_162 : decode cX2_run 162 = .ok (.getfield 21, 3) := by decide +kernel
theorem dX2_run_165 : decode cX2_run 165 = .ok (.bipush 12, 2) := by decide +kernel
theorem dX2_run_167 : decode cX2_run 167 = .ok (.iaload, 1) := by decide +kernel
theorem dX2_run_168 : decode cX2_run 168 = .ok (.aload_n 0, 1) := by decide +kernel
theorem dX2_run_169 : decode cX2_run 169 = .ok (.getfield 21, 3) := by decide +kernel
theorem dX2_run_172 : decode cX2_run 172 = .ok (.bipush 13, 2) := by decide +kernel
theorem dX2_run_174 : decode cX2_run 174 = .ok (.iaload, 1) := by decide +kernel
theorem dX2_run_175 : decode cX2_run 175 = .ok (.invokevirtual 69, 3) := by decide +kernel
theorem dX2_run_178 : decode cX2_run 178 = .ok (.aload_n 0, 1) := by decide +kernel
theorem dX2_run_179 : decode cX2_run 179 = .ok (.iconst 3, 1) := by decide +kernel
theorem dX2_run_180 : decode cX2_run 180 = .ok (.iconst 4, 1) := by decide +kernel
theorem dX2_run_181 : decode cX2_run 181 = .ok (.bipush 9, 2) := by decide +kernel
theorem dX2_run_183 : decode cX2_run 183 = .ok (.bipush 14, 2) := by decide +kernel
theorem dX2_run_185 : decode cX2_run 185 = .ok (.aload_n 0, 1) := by decide +kernel
theorem dX2_run_186 : decode cX2_run 186 = .ok (.getfield 21, 3) := by decide +kernel
theorem dX2_run_189 : decode cX2_run 189 = .ok (.bipush 14, 2) := by decide +kernel
theorem dX2_run_191 : decode cX2_run 191 = .ok (.iaload, 1) := by decide +kernel
theorem dX2_run_192 : decode cX2_run 192 = .ok (.aload_n 0, 1) := by decide +kernel
theorem dX2_run_193 : decode cX2_run 193 = .ok (.getfield 21, 3) := by decide +kernel
theorem dX2_run_196 : decode cX2_run 196 = .ok (.bipush 15, 2) := by decide +kernel
theorem dX2_run_198 : decode cX2_run 198 = .ok (.iaload, 1) := by decide +kernel
theorem dX2_run_199 : decode cX2_run 199 = .ok (.invokevirtual 69, 3) := by decide +kernel
theorem dX2_run_202 : decode cX2_run 202 = .ok (.aload_n 0, 1) := by decide +kernel
theorem dX2_run_203 : decode cX2_run 203 = .ok (.invokevirtual 73, 3) := by decide +kernel
theorem dX2_run_206 : decode cX2_run 206 = .ok (.iinc 1 1, 3) := by decide +kernel
theorem dX2_run_209 : decode cX2_run 209 = .ok (.goto (-203), 3) := by decide +kernel
theorem dX2_run_212 : decode cX2_run 212 = .ok (.iconst 0, 1) := by decide +kernel
theorem dX2_run_213 : decode cX2_run 213 = .ok (.istore_n 1, 1) := by decide +kernel
theorem dX2_run_214 : decode cX2_run 214 = .ok (.iload_n 1, 1) := by decide +kernel
theorem dX2_run_215 : decode cX2_run 215 = .ok (.bipush 8, 2) := by decide +kernel
theorem dX2_run_217 : decode cX2_run 217 = .ok (.if_icmp .ge 45, 3) := by decide +kernel
theorem dX2_run_220 : decode cX2_run 220 = .ok (.aload_n 0, 1) := by decide +kernel
theorem dX2_run_221 : decode cX2_run 221 = .ok (.getfield 18, 3) := by decide +kernel
theorem dX2_run_224 : decode cX2_run 224 = .ok (.iload_n 1, 1) := by decide +kernel
theorem dX2_run_225 : decode cX2_run 225 = .ok (.dup2, 1) := by decide +kernel
theorem dX2_run_226 : decode cX2_run 226 = .ok (.iaload, 1) := by decide +kernel
theorem dX2_run_227 : decode cX2_run 227 = .ok (.aload_n 0, 1) := by decide +kernel
theorem dX2_run_228 : decode cX2_run 228 = .ok (.getfield 18, 3) := by decide +kernel
theorem dX2_run_231 : decode cX2_run 231 = .ok (.iload_n 1, 1) := by decide +kernel
theorem dX2_run_232 : decode cX2_run 232 = .ok (.bipush 8, 2) := by decide +kernel
theorem dX2_run_234 : decode cX2_run 234 = .ok (.iadd, 1) := by decide +kernel
theorem dX2_run_235 : decode cX2_run 235 = .ok (.iaload, 1) := by decide +kernel
theorem dX2_run_236 : decode cX2_run 236 = .ok (.ixor, 1) := by decide +kernel
theorem dX2_run_237 : decode cX2_run 237 = .ok (.iastore, 1) := by decide +kernel
theorem dX2_run_238 : decode cX2_run 238 = .ok (.aload_n 0, 1) := by decide +kernel
theorem dX2_run_239 : decode cX2_run 239 = .ok (.getfield 18, 3) := by decide +kernel
theorem dX2_run_242 : decode cX2_run 242 = .ok (.iload_n 1, 1) := by decide +kernel
theorem dX2_run_243 : decode cX2_run 243 = .ok (.bipush 8, 2) := by decide +kernel
theorem dX2_run_245 : decode cX2_run 245 = .ok (.iadd, 1) := by decide +kernel
theorem dX2_run_246 : decode cX2_run 246 = .ok (.dup2, 1) := by decide +kernel
theorem dX2_run_247 : decode cX2_run 247 = .ok (.iaload, 1) := by decide +kernel
theorem dX2_run_248 : decode cX2_run 248 = .ok (.aload_n 0, 1) := by decide +kernel
theorem dX2_run_249 : decode cX2_run 249 = .ok (.getfield 9, 3) := by decide +kernel
theorem dX2_run_252 : decode cX2_run 252 = .ok (.iload_n 1, 1) := by decide +kernel
theorem dX2_run_253 : decode cX2_run 253 = .ok (.iaload, 1) := by decide +kernel
theorem dX2_run_254 : decode cX2_run 254 = .ok (.ixor, 1) := by decide +kernel
theorem dX2_run_255 : decode cX2_run 255 = .ok (.iastore, 1) := by decide +kernel
theorem dX2_run_256 : decode cX2_run 256 = .ok (.iinc 1 1, 3) := by decide +kernel
theorem dX2_run_259 : decode cX2_run 259 = .ok (.goto (-45), 3) := by decide +kernel
theorem dX2_run_262 : decode cX2_run 262 = .ok (.return_, 1) := by decide +kernel
theorem dX2_fillIn_0 : decode cX2_fillIn 0 = .ok (.iconst 0, 1) := by decide +kernel
theorem dX2_fillIn_1 : decode cX2_fillIn 1 = .ok (.istore_n 1, 1) := by decide +kernel
theorem dX2_fillIn_2 : decode cX2_fillIn 2 = .ok (.iload_n 1, 1) := by decide +kernel
theorem dX2_fillIn_3 : decode cX2_fillIn 3 = .ok (.bipush 8, 2) := by decide +kernel
theorem dX2_fillIn_5 : decode cX2_fillIn 5 = .ok (.if_icmp .ge 21, 3) := by decide +kernel
theorem dX2_fillIn_8 : decode cX2_fillIn 8 = .ok (.aload_n 0, 1) := by decide +kernel
theorem dX2_fillIn_9 : decode cX2_fillIn 9 = .ok (.getfield 18, 3) := by decide +kernel
theorem dX2_fillIn_12 : decode cX2_fillIn 12 = .ok (.iload_n 1, 1) := by decide +kernel
theorem dX2_fillIn_13 : decode cX2_fillIn 13 = .ok (.aload_n 0, 1) := by decide +kernel
theorem dX2_fillIn_14 : decode cX2_fillIn 14 = .ok (.getfield 9, 3) := by decide +kernel
theorem dX2_fillIn_17 : decode cX2_fillIn 17 = .ok (.iload_n 1, 1) := by decide +kernel
theorem dX2_fillIn_18 : decode cX2_fillIn 18 = .ok (.iaload, 1) := by decide +kernel
theorem dX2_fillIn_19 : decode cX2_fillIn 19 = .ok (.iastore, 1) := by decide +kernel
theorem dX2_fillIn_20 : decode cX2_fillIn 20 = .ok (.iinc 1 1, 3) := by decide +kernel
theorem dX2_fillIn_23 : decode cX2_fillIn 23 = .ok (.goto (-21), 3) := by decide +kernel
theorem dX2_fillIn_26 : decode cX2_fillIn 26 = .ok (.iconst 0, 1) := by decide +kernel
theorem dX2_fillIn_27 : decode cX2_fillIn 27 = .ok (.istore_n 1, 1) := by decide +kernel
theorem dX2_fillIn_28 : decode cX2_fillIn 28 = .ok (.iload_n 1, 1) := by decide +kernel
theorem dX2_fillIn_29 : decode cX2_fillIn 29 = .ok (.iconst 4, 1) := by decide +kernel
theorem dX2_fillIn_30 : decode cX2_fillIn 30 = .ok (.if_icmp .ge 23, 3) := by decide +kernel
theorem dX2_fillIn_33 : decode cX2_fillIn 33 = .ok (.aload_n 0, 1) := by decide +kernel
theorem dX2_fillIn_34 : decode cX2_fillIn 34 = .ok (.getfield 18, 3) := by decide +kernel
theorem dX2_fillIn_37 : decode cX2_fillIn 37 = .ok (.bipush 8, 2) := by decide +kernel
theorem dX2_fillIn_39 : decode cX2_fillIn 39 = .ok (.iload_n 1, 1) := by decide +kernel
theorem dX2_fillIn_40 : decode cX2_fillIn 40 = .ok (.iadd, 1) := by decide +kernel
theorem dX2_fillIn_41 : decode cX2_fillIn 41 = .ok (.getstatic 76, 3) := by decide +kernel
theorem dX2_fillIn_44 : decode cX2_fillIn 44 = .ok (.iload_n 1, 1) := by decide +kernel
theorem dX2_fillIn_45 : decode cX2_fillIn 45 = .ok (.iaload, 1) := by decide +kernel
theorem dX2_fillIn_46 : decode cX2_fillIn 46 = .ok (.iastore, 1) := by decide +kernel
theorem dX2_fillIn_47 : decode cX2_fillIn 47 = .ok (.iinc 1 1, 3) := by decide +kernel
theorem dX2_fillIn_50 : decode cX2_fillIn 50 = .ok (.goto (-22), 3) := by decide +kernel
theorem dX2_fillIn_53 : decode cX2_fillIn 53 = .ok (.aload_n 0, 1) := by decide +kernel
theorem dX2_fillIn_54 : decode cX2_fillIn 54 = .ok (.getfield 18, 3) := by decide +kernel
theorem dX2_fillIn_57 : decode cX2_fillIn 57 = .ok (.bipush 12, 2) := by decide +kernel
theorem dX2_fillIn_59 : decode cX2_fillIn 59 = .ok (.aload_n 0, 1) := by decide +kernel
theorem dX2_fillIn_60 : decode cX2_fillIn 60 = .ok (.getfield 27, 3) := by decide +kernel
theorem dX2_fillIn_63 : decode cX2_fillIn 63 = .ok (.l2i, 1) := by decide +kernel
theorem dX2_fillIn_64 : decode cX2_fillIn 64 = .ok (.iastore, 1) := by decide +kernel
theorem dX2_fillIn_65 : decode cX2_fillIn 65 = .ok (.aload_n 0, 1) := by decide +kernel
theorem dX2_fillIn_66 : decode cX2_fillIn 66 = .ok (.getfield 18, 3) := by decide +kernel
theorem dX2_fillIn_69 : decode cX2_fillIn 69 = .ok (.bipush 13, 2) := by decide +kernel
theorem dX2_fillIn_71 : decode cX2_fillIn 71 = .ok (.aload_n 0, 1) := by decide +kernel
theorem dX2_fillIn_72 : decode cX2_fillIn 72 = .ok (.getfield 27, 3) := by decide +kernel
theorem dX2_fillIn_75 : decode cX2_fillIn 75 = .ok (.bipush 32, 2) := by decide +kernel
theorem dX2_fillIn_77 : decode cX2_fillIn 77 = .ok (.lushr, 1) := by decide +kernel
theorem dX2_fillIn_78 : decode cX2_fillIn 78 = .ok (.l2i, 1) := by decide +kernel
theorem dX2_fillIn_79 : decode cX2_fillIn 79 = .ok (.iastore, 1) := by decide +kernel
theorem dX2_fillIn_80 : decode cX2_fillIn 80 = .ok (.aload_n 0, 1) := by decide +kernel
theorem dX2_fillIn_81 : decode cX2_fillIn 81 = .ok (.getfield 18, 3) := by decide +kernel
theorem dX2_fillIn_84 : decode cX2_fillIn 84 = .ok (.bipush 14, 2) := by decide +kernel
theorem dX2_fillIn_86 : decode cX2_fillIn 86 = .ok (.aload_n 0, 1) := by decide +kernel
theorem dX2_fillIn_87 : decode cX2_fillIn 87 = .ok (.getfield 31, 3) := by decide +kernel
theorem dX2_fillIn_90 : decode cX2_fillIn 90 = .ok (.iastore, 1) := by decide +kernel
theorem dX2_fillIn_91 : decode cX2_fillIn 91 = .ok (.aload_n 0, 1) := by decide +kernel
theorem dX2_fillIn_92 : decode cX2_fillIn 92 = .ok (.getfield 18, 3) := by decide +kernel
theorem dX2_fillIn_95 : decode cX2_fillIn 95 = .ok (.bipush 15, 2) := by decide +kernel
theorem dX2_fillIn_97 : decode cX2_fillIn 97 = .ok (.aload_n 0, 1) := by decide +kernel
theorem dX2_fillIn_98 : decode cX2_fillIn 98 = .ok (.getfield 35, 3) := by decide +kernel
theorem dX2_fillIn_101 : decode cX2_fillIn 101 = .ok (.iastore, 1) := by decide +kernel
theorem dX2_fillIn_102 : decode cX2_fillIn 102 = .ok (.iconst 0, 1) := by decide +kernel
theorem dX2_fillIn_103 : decode cX2_fillIn 103 = .ok (.istore_n 1, 1) := by decide +kernel
theorem dX2_fillIn_104 : decode cX2_fillIn 104 = .ok (.iload_n 1, 1) := by decide +kernel
theorem dX2_fillIn_105 : decode cX2_fillIn 105 = .ok (.bipush 16, 2) := by decide +kernel
theorem dX2_fillIn_107 : decode cX2_fillIn 107 = .ok (.if_icmp .ge 21, 3) := by decide +kernel
theorem dX2_fillIn_110 : decode cX2_fillIn 110 = .ok (.aload_n 0, 1) := by decide +kernel
theorem dX2_fillIn_111 : decode cX2_fillIn 111 = .ok (.getfield 21, 3) := by decide +kernel
theorem dX2_fillIn_114 : decode cX2_fillIn 114 = .ok (.iload_n 1, 1) := by decide +kernel
theorem dX2_fillIn_115 : decode cX2_fillIn 115 = .ok (.aload_n 0, 1) := by decide +kernel
theorem dX2_fillIn_116 : decode cX2_fillIn 116 = .ok (.getfield 15, 3) := by decide +kernel
theorem dX2_fillIn_119 : decode cX2_fillIn 119 = .ok (.iload_n 1, 1) := by decide +kernel
theorem dX2_fillIn_120 : decode cX2_fillIn 120 = .ok (.iaload, 1) := by decide +kernel
theorem dX2_fillIn_121 : decode cX2_fillIn 121 = .ok (.iastore, 1) := by decide +kernel
theorem dX2_fillIn_122 : decode cX2_fillIn 122 = .ok (.iinc 1 1, 3) := by decide +kernel
theorem dX2_fillIn_125 : decode cX2_fillIn 125 = .ok (.goto (-21), 3) := by decide +kernel
theorem dX2_fillIn_128 : decode cX2_fillIn 128 = .ok (.return_, 1) := by decide +kernel
theorem dX2_turn_0 : decode cX2_turn 0 = .ok (.aload_n 0, 1) := by decide +kernel
theorem dX2_turn_1 : decode cX2_turn 1 = .ok (.getfield 18, 3) := by decide +kernel
theorem dX2_turn_4 : decode cX2_turn 4 = .ok (.iload_n 1, 1) := by decide +kernel
theorem dX2_turn_5 : decode cX2_turn 5 = .ok (.iaload, 1) := by decide +kernel
theorem dX2_turn_6 : decode cX2_turn 6 = .ok (.aload_n 0, 1) := by decide +kernel
theorem dX2_turn_7 : decode cX2_turn 7 = .ok (.getfield 18, 3) := by decide +kernel
theorem dX2_turn_10 : decode cX2_turn 10 = .ok (.iload_n 2, 1) := by decide +kernel
theorem dX2_turn_11 : decode cX2_turn 11 = .ok (.iaload, 1) := by decide +kernel
theorem dX2_turn_12 : decode cX2_turn 12 = .ok (.iadd, 1) := by decide +kernel
theorem dX2_turn_13 : decode cX2_turn 13 = .ok (.iload 5, 2) := by decide +kernel
theorem dX2_turn_15 : decode cX2_turn 15 = .ok (.iadd, 1) := by decide +kernel
theorem dX2_turn_16 : decode cX2_turn 16 = .ok (.istore 7, 2) := by decide +kernel
theorem dX2_turn_18 : decode cX2_turn 18 = .ok (.aload_n 0, 1) := by decide +kernel
theorem dX2_turn_19 : decode cX2_turn 19 = .ok (.getfield 18, 3) := by decide +kernel
theorem dX2_turn_22 : decode cX2_turn 22 = .ok (.iload 4, 2) := by decide +kernel
theorem dX2_turn_24 : decode cX2_turn 24 = .ok (.iaload, 1) := by decide +kernel
theorem dX2_turn_25 : decode cX2_turn 25 = .ok (.iload 7, 2) := by decide +kernel
theorem dX2_turn_27 : decode cX2_turn 27 = .ok (.ixor, 1) := by decide +kernel
theorem dX2_turn_28 : decode cX2_turn 28 = .ok (.istore 8, 2) := by decide +kernel
theorem dX2_turn_30 : decode cX2_turn 30 = .ok (.iload 8, 2) := by decide +kernel
theorem dX2_turn_32 : decode cX2_turn 32 = .ok (.bipush 16, 2) := by decide +kernel
theorem dX2_turn_34 : decode cX2_turn 34 = .ok (.iushr, 1) := by decide +kernel
theorem dX2_turn_35 : decode cX2_turn 35 = .ok (.iload 8, 2) := by decide +kernel
theorem dX2_turn_37 : decode cX2_turn 37 = .ok (.bipush 16, 2) := by decide +kernel
theorem dX2_turn_39 : decode cX2_turn 39 = .ok (.ishl, 1) := by decide +kernel
theorem dX2_turn_40 : decode cX2_turn 40 = .ok (.ior, 1) := by decide +kernel
theorem dX2_turn_41 : decode cX2_turn 41 = .ok (.istore 8, 2) := by decide +kernel
theorem dX2_turn_43 : decode cX2_turn 43 = .ok (.aload_n 0, 1) := by decide +kernel
theorem dX2_turn_44 : decode cX2_turn 44 = .ok (.getfield 18, 3) := by decide +kernel
theorem dX2_turn_47 : decode cX2_turn 47 = .ok (.iload_n 3, 1) := by decide +kernel
theorem dX2_turn_48 : decode cX2_turn 48 = .ok (.iaload, 1) := by decide +kernel
theorem dX2_turn_49 : decode cX2_turn 49 = .ok (.iload 8, 2) := by decide +kernel
theorem dX2_turn_51 : decode cX2_turn 51 = .ok (.iadd, 1) := by decide +kernel
theorem dX2_turn_52 : decode cX2_turn 52 = .ok (.istore 9, 2) := by decide +kernel
theorem dX2_turn_54 : decode cX2_turn 54 = .ok (.aload_n 0, 1) := by decide +kernel
theorem dX2_turn_55 : decode cX2_turn 55 = .ok (.getfield 18, 3) := by decide +kernel
theorem dX2_turn_58 : decode cX2_turn 58 = .ok (.iload_n 2, 1) := by decide +kernel
theorem dX2_turn_59 : decode cX2_turn 59 = .ok (.iaload, 1) := by decide +kernel
theorem dX2_turn_60 : decode cX2_turn 60 = .ok (.iload 9, 2) := by decide +kernel
theorem dX2_turn_62 : decode cX2_turn 62 = .ok (.ixor, 1) := by decide +kernel
theorem dX2_turn_63 : decode cX2_turn 63 = .ok (.istore 10, 2) := by decide +kernel
theorem dX2_turn_65 : decode cX2_turn 65 = .ok (.iload 10, 2) := by decide +kernel
theorem dX2_turn_67 : decode cX2_turn 67 = .ok (.bipush 12, 2) := by decide +kernel
theorem dX2_turn_69 : decode cX2_turn 69 = .ok (.iushr, 1) := by decide +kernel
theorem dX2_turn_70 : decode cX2_turn 70 = .ok (.iload 10, 2) := by decide +kernel
theorem dX2_turn_72 : decode cX2_turn 72 = .ok (.bipush 20, 2) := by decide +kernel
theorem dX2_turn_74 : decode cX2_turn 74 = .ok (.ishl, 1) := by decide +kernel
theorem dX2_turn_75 : decode cX2_turn 75 = .ok (.ior, 1) := by decide +kernel
theorem dX2_turn_76 : decode cX2_turn 76 = .ok (.istore 10, 2) := by decide +kernel
theorem dX2_turn_78 : decode cX2_turn 78 = .ok (.iload 7, 2) := by decide +kernel
theorem dX2_turn_80 : decode cX2_turn 80 = .ok (.iload 10, 2) := by decide +kernel
theorem dX2_turn_82 : decode cX2_turn 82 = .ok (.iload 6, 2) := by decide +kernel
theorem dX2_turn_84 : decode cX2_turn 84 = .ok (.iadd, 1) := by decide +kernel
theorem dX2_turn_85 : decode cX2_turn 85 = .ok (.iadd, 1) := by decide +kernel
theorem dX2_turn_86 : decode cX2_turn 86 = .ok (.istore 7, 2) := by decide +kernel
theorem dX2_turn_88 : decode cX2_turn 88 = .ok (.iload 8, 2) := by decide +kernel
theorem dX2_turn_90 : decode cX2_turn 90 = .ok (.iload 7, 2) := by decide +kernel
theorem dX2_turn_92 : decode cX2_turn 92 = .ok (.ixor, 1) := by decide +kernel
theorem dX2_turn_93 : decode cX2_turn 93 = .ok (.istore 8, 2) := by decide +kernel
theorem dX2_turn_95 : decode cX2_turn 95 = .ok (.iload 8, 2) := by decide +kernel
theorem dX2_turn_97 : decode cX2_turn 97 = .ok (.bipush 8, 2) := by decide +kernel
theorem dX2_turn_99 : decode cX2_turn 99 = .ok (.iushr, 1) := by decide +kernel
theorem dX2_turn_100 : decode cX2_turn 100 = .ok (.iload 8, 2) := by decide +kernel
theorem dX2_turn_102 : decode cX2_turn 102 = .ok (.bipush 24, 2) := by decide +kernel
theorem dX2_turn_104 : decode cX2_turn 104 = .ok (.ishl, 1) := by decide +kernel
theorem dX2_turn_105 : decode cX2_turn 105 = .ok (.ior, 1) := by decide +kernel
theorem dX2_turn_106 : decode cX2_turn 106 = .ok (.istore 8, 2) := by decide +kernel
theorem dX2_turn_108 : decode cX2_turn 108 = .ok (.iload 9, 2) := by decide +kernel
theorem dX2_turn_110 : decode cX2_turn 110 = .ok (.iload 8, 2) := by decide +kernel
theorem dX2_turn_112 : decode cX2_turn 112 = .ok (.iadd, 1) := by decide +kernel
theorem dX2_turn_113 : decode cX2_turn 113 = .ok (.istore 9, 2) := by decide +kernel
theorem dX2_turn_115 : decode cX2_turn 115 = .ok (.iload 10, 2) := by decide +kernel
theorem dX2_turn_117 : decode cX2_turn 117 = .ok (.iload 9, 2) := by decide +kernel
theorem dX2_turn_119 : decode cX2_turn 119 = .ok (.ixor, 1) := by decide +kernel
theorem dX2_turn_120 : decode cX2_turn 120 = .ok (.istore 10, 2) := by decide +kernel
theorem dX2_turn_122 : decode cX2_turn 122 = .ok (.iload 10, 2) := by decide +kernel
theorem dX2_turn_124 : decode cX2_turn 124 = .ok (.bipush 7, 2) := by decide +kernel
theorem dX2_turn_126 : decode cX2_turn 126 = .ok (.iushr, 1) := by decide +kernel
theorem dX2_turn_127 : decode cX2_turn 127 = .ok (.iload 10, 2) := by decide +kernel
theorem dX2_turn_129 : decode cX2_turn 129 = .ok (.bipush 25, 2) := by decide +kernel
theorem dX2_turn_131 : decode cX2_turn 131 = .ok (.ishl, 1) := by decide +kernel
theorem dX2_turn_132 : decode cX2_turn 132 = .ok (.ior, 1) := by decide +kernel
theorem dX2_turn_133 : decode cX2_turn 133 = .ok (.istore 10, 2) := by decide +kernel
theorem dX2_turn_135 : decode cX2_turn 135 = .ok (.aload_n 0, 1) := by decide +kernel
theorem dX2_turn_136 : decode cX2_turn 136 = .ok (.getfield 18, 3) := by decide +kernel
theorem dX2_turn_139 : decode cX2_turn 139 = .ok (.iload_n 1, 1) := by decide +kernel
theorem dX2_turn_140 : decode cX2_turn 140 = .ok (.iload 7, 2) := by decide +kernel
theorem dX2_turn_142 : decode cX2_turn 142 = .ok (.iastore, 1) := by decide +kernel
theorem dX2_turn_143 : decode cX2_turn 143 = .ok (.aload_n 0, 1) := by decide +kernel
theorem dX2_turn_144 : decode cX2_turn 144 = .ok (.getfield 18, 3) := by decide +kernel
theorem dX2_turn_147 : decode cX2_turn 147 = .ok (.iload_n 2, 1) := by decide +kernel
theorem dX2_turn_148 : decode cX2_turn 148 = .ok (.iload 10, 2) := by decide +kernel
theorem dX2_turn_150 : decode cX2_turn 150 = .ok (.iastore, 1) := by decide +kernel
theorem dX2_turn_151 : decode cX2_turn 151 = .ok (.aload_n 0, 1) := by decide +kernel
theorem dX2_turn_152 : decode cX2_turn 152 = .ok (.getfield 18, 3) := by decide +kernel
theorem dX2_turn_155 : decode cX2_turn 155 = .ok (.iload_n 3, 1) := by decide +kernel
theorem dX2_turn_156 : decode cX2_turn 156 = .ok (.iload 9, 2) := by decide +kernel
theorem dX2_turn_158 : decode cX2_turn 158 = .ok (.iastore, 1) := by decide +kernel
theorem dX2_turn_159 : decode cX2_turn 159 = .ok (.aload_n 0, 1) := by decide +kernel
theorem dX2_turn_160 : decode cX2_turn 160 = .ok (.getfield 18, 3) := by decide +kernel
theorem dX2_turn_163 : decode cX2_turn 163 = .ok (.iload 4, 2) := by decide +kernel
theorem dX2_turn_165 : decode cX2_turn 165 = .ok (.iload 8, 2) := by decide +kernel
theorem dX2_turn_167 : decode cX2_turn 167 = .ok (.iastore, 1) := by decide +kernel
theorem dX2_turn_168 : decode cX2_turn 168 = .ok (.return_, 1) := by decide +kernel
theorem dX2_reorder_0 : decode cX2_reorder 0 = .ok (.iconst 0, 1) := by decide +kernel
theorem dX2_reorder_1 : decode cX2_reorder 1 = .ok (.istore_n 1, 1) := by decide +kernel
theorem dX2_reorder_2 : decode cX2_reorder 2 = .ok (.iload_n 1, 1) := by decide +kernel
theorem dX2_reorder_3 : decode cX2_reorder 3 = .ok (.bipush 16, 2) := by decide +kernel
theorem dX2_reorder_5 : decode cX2_reorder 5 = .ok (.if_icmp .ge 25, 3) := by decide +kernel
theorem dX2_reorder_8 : decode cX2_reorder 8 = .ok (.aload_n 0, 1) := by decide +kernel
theorem dX2_reorder_9 : decode cX2_reorder 9 = .ok (.getfield 24, 3) := by decide +kernel
theorem dX2_reorder_12 : decode cX2_reorder 12 = .ok (.iload_n 1, 1) := by decide +kernel
theorem dX2_reorder_13 : decode cX2_reorder 13 = .ok (.aload_n 0, 1) := by decide +kernel
theorem dX2_reorder_14 : decode cX2_reorder 14 = .ok (.getfield 21, 3) := by decide +kernel
theorem dX2_reorder_17 : decode cX2_reorder 17 = .ok (.getstatic 79, 3) := by decide +kernel
theorem dX2_reorder_20 : decode cX2_reorder 20 = .ok (.iload_n 1, 1) := by decide +kernel
theorem dX2_reorder_21 : decode cX2_reorder 21 = .ok (.iaload, 1) := by decide +kernel
theorem dX2_reorder_22 : decode cX2_reorder 22 = .ok (.iaload, 1) := by decide +kernel
theorem dX2_reorder_23 : decode cX2_reorder 23 = .ok (.iastore, 1) := by decide +kernel
theorem dX2_reorder_24 : decode cX2_reorder 24 = .ok (.iinc 1 1, 3) := by decide +kernel
theorem dX2_reorder_27 : decode cX2_reorder 27 = .ok (.goto (-25), 3) := by decide +kernel
theorem dX2_reorder_30 : decode cX2_reorder 30 = .ok (.aload_n 0, 1) := by decide +kernel
theorem dX2_reorder_31 : decode cX2_reorder 31 = .ok (.getfield 21, 3) := by decide +kernel
theorem dX2_reorder_34 : decode cX2_reorder 34 = .ok (.astore_n 1, 1) := by decide +kernel
theorem dX2_reorder_35 : decode cX2_reorder 35 = .ok (.aload_n 0, 1) := by decide +kernel
theorem dX2_reorder_36 : decode cX2_reorder 36 = .ok (.aload_n 0, 1) := by decide +kernel
theorem dX2_reorder_37 : decode cX2_reorder 37 = .ok (.getfield 24, 3) := by decide +kernel
theorem dX2_reorder_40 : decode cX2_reorder 40 = .ok (.putfield 21, 3) := by decide +kernel
theorem dX2_reorder_43 : decode cX2_reorder 43 = .ok (.aload_n 0, 1) := by decide +kernel
theorem dX2_reorder_44 : decode cX2_reorder 44 = .ok (.aload_n 1, 1) := by decide +kernel
theorem dX2_reorder_45 : decode cX2_reorder 45 = .ok (.putfield 24, 3) := by decide +kernel
theorem dX2_reorder_48 : decode cX2_reorder 48 = .ok (.return_, 1) := by decide +kernel
theorem dX3_init_0 : decode cX3_init 0 = .ok (.aload_n 0, 1) := by decide +kernel
theorem dX3_init_1 : decode cX3_init 1 = .ok (.invokespecial 1, 3) := by decide +kernel
theorem dX3_init_4 : decode cX3_init 4 = .ok (.aload_n 0, 1) := by decide +kernel
theorem dX3_init_5 : decode cX3_init 5 = .ok (.bipush 10, 2) := by decide +kernel
theorem dX3_init_7 : decode cX3_init 7 = .ok (.newarray .int, 2) := by decide +kernel
theorem dX3_init_9 : decode cX3_init 9 = .ok (.putfield 9, 3) := by decide +kernel
theorem dX3_init_12 : decode cX3_init 12 = .ok (.aload_n 0, 1) := by decide +kernel
theorem dX3_init_13 : decode cX3_init 13 = .ok (.bipush 10, 2) := by decide +kernel
theorem dX3_init_15 : decode cX3_init 15 = .ok (.newarray .int, 2) := by decide +kernel
theorem dX3_init_17 : decode cX3_init 17 = .ok (.putfield 13, 3) := by decide +kernel
theorem dX3_init_20 : decode cX3_init 20 = .ok (.return_, 1) := by decide +kernel
set_option maxRecDepth 20000 in
theorem ggX3_lead_X3_leftOf : GoodIn wsX3_lead wsX3_leftOf := goodIn_r _ [7] (by decide +kernel) (by decide +kernel)
set_option maxRecDepth 20000 in
theorem gX3_lead_X3_leftOf : GoodIn wsX3_lead (va_wsS RX3 20 yX3_leftOf wsX3_leftOf) := goodIn_app (goodIn_of _ (by decide +kernel)) ggX3_lead_X3_leftOf
theorem dX3_lead_0 : decode cX3_lead 0 = .ok (.iconst 0, 1) := by decide +kernel
theorem dX3_lead_1 : decode cX3_lead 1 = .ok (.istore_n 3, 1) := by decide +kernel
theorem dX3_lead_2 : decode cX3_lead 2 = .ok (.iload_n 1, 1) := by decide +kernel
theorem dX3_lead_3 : decode cX3_lead 3 = .ok (.istore 4, 2) := by decide +kernel
theorem dX3_lead_5 : decode cX3_lead 5 = .ok (.aload_n 0, 1) := by decide +kernel
theorem dX3_lead_6 : decode cX3_lead 6 = .ok (.iconst 0, 1) := by decide +kernel
theorem dX3_lead_7 : decode cX3_lead 7 = .ok (.putfield 16, 3) := by decide +kernel
theorem dX3_lead_10 : decode cX3_lead 10 = .ok (.iload 4, 2) := by decide +kernel
theorem dX3_lead_12 : decode cX3_lead 12 = .ok (.iconst 1, 1) := by decide +kernel
theorem dX3_lead_13 : decode cX3_lead 13 = .ok (.if_icmp .le 107, 3) := by decide +kernel
theorem dX3_lead_16 : decode cX3_lead 16 = .ok (.aload_n 0, 1) := by decide +kernel
theorem dX3_lead_17 : decode cX3_lead 17 = .ok (.getfield 16, 3) := by decide +kernel
theorem dX3_lead_20 : decode cX3_lead 20 = .ok (.bipush 10, 2) := by decide +kernel
theorem dX3_lead_22 : decode cX3_lead 22 = .ok (.if_icmp .ge 98, 3) := by decide +kernel
theorem dX3_lead_25 : decode cX3_lead 25 = .ok (.iload 4, 2) := by decide +kernel
theorem dX3_lead_27 : decode cX3_lead 27 = .ok (.invokestatic 20, 3) := by decide +kernel
theorem dX3_lead_30 : decode cX3_lead 30 = .ok (.istore 5, 2) := by decide +kernel
theorem dX3_lead_32 : decode cX3_lead 32 = .ok (.iload_n 2, 1) := by decide +kernel
theorem dX3_lead_33 : decode cX3_lead 33 = .ok (.iload_n 3, 1) := by decide +kernel
theorem dX3_lead_34 : decode cX3_lead 34 = .ok (.iload 5, 2) := by decide +kernel
theorem dX3_lead_36 : decode cX3_lead 36 = .ok (.iadd, 1) := by decide +kernel
theorem dX3_lead_37 : decode cX3_lead 37 = .ok (.if_icmp .ge 37, 3) := by decide +kernel
theorem dX3_lead_40 : decode cX3_lead 40 = .ok (.aload_n 0, 1) := by decide +kernel
theorem dX3_lead_41 : decode cX3_lead 41 = .ok (.getfield 9, 3) := by decide +kernel
theorem dX3_lead_44 : decode cX3_lead 44 = .ok (.aload_n 0, 1) := by decide +kernel
theorem dX3_lead_45 : decode cX3_lead 45 = .ok (.getfield 16, 3) := by decide +kernel
theorem dX3_lead_48 : decode cX3_lead 48 = .ok (.iload_n 3, 1) := by decide +kernel
theorem dX3_lead_49 : decode cX3_lead 49 = .ok (.iload 5, 2) := by decide +kernel
theorem dX3_lead_51 : decode cX3_lead 51 = .ok (.iadd, 1) := by decide +kernel
theorem dX3_lead_52 : decode cX3_lead 52 = .ok (.iastore, 1) := by decide +kernel
theorem dX3_lead_53 : decode cX3_lead 53 = .ok (.aload_n 0, 1) := by decide +kernel
theorem dX3_lead_54 : decode cX3_lead 54 = .ok (.getfield 13, 3) := by decide +kernel
theorem dX3_lead_57 : decode cX3_lead 57 = .ok (.aload_n 0, 1) := by decide +kernel
theorem dX3_lead_58 : decode cX3_lead 58 = .ok (.getfield 16, 3) := by decide +kernel
theorem dX3_lead_61 : decode cX3_lead 61 = .ok (.iload 4, 2) := by decide +kernel
theorem dX3_lead_63 : decode cX3_lead 63 = .ok (.iload 5, 2) := by decide +kernel
theorem dX3_lead_65 : decode cX3_lead 65 = .ok (.isub, 1) := by decide +kernel
theorem dX3_lead_66 : decode cX3_lead 66 = .ok (.iastore, 1) := by decide +kernel
theorem dX3_lead_67 : decode cX3_lead 67 = .ok (.iload 5, 2) := by decide +kernel
theorem dX3_lead_69 : decode cX3_lead 69 = .ok (.istore 4, 2) := by decide +kernel
theorem dX3_lead_71 : decode cX3_lead 71 = .ok (.goto 36, 3) := by decide +kernel
theorem dX3_lead_74 : decode cX3_lead 74 = .ok (.aload_n 0, 1) := by decide +kernel
theorem dX3_lead_75 : decode cX3_lead 75 = .ok (.getfield 9, 3) := by decide +kernel
theorem dX3_lead_78 : decode cX3_lead 78 = .ok (.aload_n 0, 1) := by decide +kernel
theorem dX3_lead_79 : decode cX3_lead 79 = .ok (.getfield 16, 3) := by decide +kernel
theorem dX3_lead_82 : decode cX3_lead 82 = .ok (.iload_n 3, 1) := by decide +kernel
theorem dX3_lead_83 : decode cX3_lead 83 = .ok (.iastore, 1) := by decide +kernel
theorem dX3_lead_84 : decode cX3_lead 84 = .ok (.aload_n 0, 1) := by decide +kernel
theorem dX3_lead_85 : decode cX3_lead 85 = .ok (.getfield 13, 3) := by decide +kernel
theorem dX3_lead_88 : decode cX3_lead 88 = .ok (.aload_n 0, 1) := by decide +kernel
theorem dX3_lead_89 : decode cX3_lead 89 = .ok (.getfield 16, 3) := by decide +kernel
theorem dX3_lead_92 : decode cX3_lead 92 = .ok (.iload 5, 2) := by decide +kernel
theorem dX3_lead_94 : decode cX3_lead 94 = .ok (.iastore, 1) := by decide +kernel
theorem dX3_lead_95 : decode cX3_lead 95 = .ok (.iload_n 3, 1) := by decide +kernel
theorem dX3_lead_96 : decode cX3_lead 96 = .ok (.iload 5, 2) := by decide +kernel
theorem dX3_lead_98 : decode cX3_lead 98 = .ok (.iadd, 1) := by decide +kernel
theorem dX3_lead_99 : decode cX3_lead 99 = .ok (.istore_n 3, 1) := by decide +kernel
theorem dX3_lead_100 : decode cX3_lead 100 = .ok (.iload 4, 2) := by decide +kernel
theorem dX3_lead_102 : decode cX3_lead 102 = .ok (.iload 5, 2) := by decide +kernel
theorem dX3_lead_104 : decode cX3_lead 104 = .ok (.isub, 1) := by decide +kernel
theorem dX3_lead_105 : decode cX3_lead 105 = .ok (.istore 4, 2) := by decide +kernel
theorem dX3_lead_107 : decode cX3_lead 107 = .ok (.aload_n 0, 1) := by decide +kernel
theorem dX3_lead_108 : decode cX3_lead 108 = .ok (.dup, 1) := by decide +kernel
theorem dX3_lead_109 : decode cX3_lead 109 = .ok (.getfield 16, 3) := by decide +kernel
theorem dX3_lead_112 : decode cX3_lead 112 = .ok (.iconst 1, 1) := by decide +kernel
theorem dX3_lead_113 : decode cX3_lead 113 = .ok (.iadd, 1) := by decide +kernel
theorem dX3_lead_114 : decode cX3_lead 114 = .ok (.putfield 16, 3) := by decide +kernel
theorem dX3_lead_117 : decode cX3_lead 117 = .ok (.goto (-107), 3) := by decide +kernel
theorem dX3_lead_120 : decode cX3_lead 120 = .ok (.return_, 1) := by decide +kernel
theorem dX3_leftOf_0 : decode cX3_leftOf 0 = .ok (.iconst 1, 1) := by decide +kernel
theorem dX3_leftOf_1 : decode cX3_leftOf 1 = .ok (.istore_n 1, 1) := by decide +kernel
theorem dX3_leftOf_2 : decode cX3_leftOf 2 = .ok (.iconst 1, 1) := by decide +kernel
theorem dX3_leftOf_3 : decode cX3_leftOf 3 = .ok (.istore_n 2, 1) := by decide +kernel
theorem dX3_leftOf_4 : decode cX3_leftOf 4 = .ok (.iload_n 2, 1) := by decide +kernel
theorem dX3_leftOf_5 : decode cX3_leftOf 5 = .ok (.bipush 10, 2) := by decide +kernel
theorem dX3_leftOf_7 : decode cX3_leftOf 7 = .ok (.if_icmp .ge 20, 3) := by decide +kernel
theorem dX3_leftOf_10 : decode cX3_leftOf 10 = .ok (.iconst 2, 1) := by decide +kernel
theorem dX3_leftOf_11 : decode cX3_leftOf 11 = .ok (.iload_n 1, 1) := by decide +kernel
theorem dX3_leftOf_12 : decode cX3_leftOf 12 = .ok (.imul, 1) := by decide +kernel
theorem dX3_leftOf_13 : decode cX3_leftOf 13 = .ok (.iload_n 0, 1) := by decide +kernel
theorem dX3_leftOf_14 : decode cX3_leftOf 14 = .ok (.if_icmp .ge 13, 3) := by decide +kernel
theorem dX3_leftOf_17 : decode cX3_leftOf 17 = .ok (.iload_n 1, 1) := by decide +kernel
theorem dX3_leftOf_18 : decode cX3_leftOf 18 = .ok (.iconst 2, 1) := by decide +kernel
theorem dX3_leftOf_19 : decode cX3_leftOf 19 = .ok (.imul, 1) := by decide +kernel
theorem dX3_leftOf_20 : decode cX3_leftOf 20 = .ok (.istore_n 1, 1) := by decide +kernel
theorem dX3_leftOf_21 : decode cX3_leftOf 21 = .ok (.iinc 2 1, 3) := by decide +kernel
theorem dX3_leftOf_24 : decode cX3_leftOf 24 = .ok (.goto (-20), 3) := by decide +kernel
theorem dX3_leftOf_27 : decode cX3_leftOf 27 = .ok (.iload_n 1, 1) := by decide +kernel
theorem dX3_leftOf_28 : decode cX3_leftOf 28 = .ok (.ireturn, 1) := by decide +kernel
end
section
set_option maxRecDepth 20000 in
theorem ggX4_init_X0_init : GoodIn wsX4_init wsX0_init := goodIn_r _ [23, 24, 2, 3, 25, 26, 27, 28, 29, 30, 87, 88] (by decide +kernel) (by decide +kernel)
set_option maxRecDepth 20000 in
theorem gX4_init_X0_init : GoodIn wsX4_init (wsX0_init) := ggX4_init_X0_init
set_option maxRecDepth 20000 in
theorem ggX4_init_X1_init : GoodIn wsX4_init wsX1_init := goodIn_r _ [33, 34, 2, 3, 35, 36, 37, 38, 19, 39, 40, 41, 42, 43, 44, 45, 46, 47, 48, 49, 50, 51, 52, 53, 54, 13, 55, 56, 57, 58, 59, 60, 61, 62, 63, 64, 65, 66, 67, 68, 69, 70, 71, 72, 73, 74, 105, 106, 107, 108, 109, 110, 111, 112, 89, 90, 91, 92, 93, 94, 95, 96, 97, 98, 99, 100, 101] (by decide +kernel) (by decide +kernel)
set_option maxRecDepth 20000 in
theorem gX4_init_X1_init : GoodIn wsX4_init (wsX1_init) := ggX4_init_X1_init
set_option maxRecDepth 20000 in
theorem ggX4_init_X3_init : GoodIn wsX4_init wsX3_init := goodIn_r _ [76, 77, 2, 3, 19, 78, 79, 102, 103, 104] (by decide +kernel) (by decide +kernel)
set_option maxRecDepth 20000 in
theorem gX4_init_X3_init_n38 : GoodIn wsX4_init (wsX3_init) := ggX4_init_X3_init
theorem dX4_init_0 : decode cX4_init 0 = .ok (.aload_n 0, 1) := by decide +kernel
theorem dX4_init_1 : decode cX4_init 1 = .ok (.invokespecial 3, 3) := by decide +kernel
theorem dX4_init_4 : decode cX4_init 4 = .ok (.aload_n 0, 1) := by decide +kernel
theorem dX4_init_5 : decode cX4_init 5 = .ok (.bipush 8, 2) := by decide +kernel
theorem dX4_init_7 : decode cX4_init 7 = .ok (.anewarray 9, 3) := by decide +kernel
theorem dX4_init_10 : decode cX4_init 10 = .ok (.putfield 11, 3) := by decide +kernel
theorem dX4_init_13 : decode cX4_init 13 = .ok (.aload_n 0, 1) := by decide +kernel
theorem dX4_init_14 : decode cX4_init 14 = .ok (.iconst 4, 1) := by decide +kernel
theorem dX4_init_15 : decode cX4_init 15 = .ok (.anewarray 15, 3) := by decide +kernel
theorem dX4_init_18 : decode cX4_init 18 = .ok (.putfield 17, 3) := by decide +kernel
theorem dX4_init_21 : decode cX4_init 21 = .ok (.aload_n 0, 1) := by decide +kernel
theorem dX4_init_22 : decode cX4_init 22 = .ok (.new 9, 3) := by decide +kernel
theorem dX4_init_25 : decode cX4_init 25 = .ok (.dup, 1) := by decide +kernel
theorem dX4_init_26 : decode cX4_init 26 = .ok (.sipush 20000, 3) := by decide +kernel
theorem dX4_init_29 : decode cX4_init 29 = .ok (.invokespecial 21, 3) := by decide +kernel
theorem dX4_init_32 : decode cX4_init 32 = .ok (.putfield 24, 3) := by decide +kernel
theorem dX4_init_35 : decode cX4_init 35 = .ok (.aload_n 0, 1) := by decide +kernel
theorem dX4_init_36 : decode cX4_init 36 = .ok (.new 9, 3) := by decide +kernel
theorem dX4_init_39 : decode cX4_init 39 = .ok (.dup, 1) := by decide +kernel
theorem dX4_init_40 : decode cX4_init 40 = .ok (.sipush 1184, 3) := by decide +kernel
theorem dX4_init_43 : decode cX4_init 43 = .ok (.invokespecial 21, 3) := by decide +kernel
theorem dX4_init_46 : decode cX4_init 46 = .ok (.putfield 28, 3) := by decide +kernel
theorem dX4_init_49 : decode cX4_init 49 = .ok (.aload_n 0, 1) := by decide +kernel
theorem dX4_init_50 : decode cX4_init 50 = .ok (.new 15, 3) := by decide +kernel
theorem dX4_init_53 : decode cX4_init 53 = .ok (.dup, 1) := by decide +kernel
theorem dX4_init_54 : decode cX4_init 54 = .ok (.invokespecial 31, 3) := by decide +kernel
theorem dX4_init_57 : decode cX4_init 57 = .ok (.putfield 32, 3) := by decide +kernel
theorem dX4_init_60 : decode cX4_init 60 = .ok (.aload_n 0, 1) := by decide +kernel
theorem dX4_init_61 : decode cX4_init 61 = .ok (.new 36, 3) := by decide +kernel
theorem dX4_init_64 : decode cX4_init 64 = .ok (.dup, 1) := by decide +kernel
theorem dX4_init_65 : decode cX4_init 65 = .ok (.invokespecial 38, 3) := by decide +kernel
theorem dX4_init_68 : decode cX4_init 68 = .ok (.putfield 39, 3) := by decide +kernel
theorem dX4_init_71 : decode cX4_init 71 = .ok (.aload_n 0, 1) := by decide +kernel
theorem dX4_init_72 : decode cX4_init 72 = .ok (.bipush 8, 2) := by decide +kernel
theorem dX4_init_74 : decode cX4_init 74 = .ok (.newarray .int, 2) := by decide +kernel
theorem dX4_init_76 : decode cX4_init 76 = .ok (.putfield 43, 3) := by decide +kernel
theorem dX4_init_79 : decode cX4_init 79 = .ok (.iconst 0, 1) := by decide +kernel
theorem dX4_init_80 : decode cX4_init 80 = .ok (.istore_n 1, 1) := by decide +kernel
theorem dX4_init_81 : decode cX4_init 81 = .ok (.iload_n 1, 1) := by decide +kernel
theorem dX4_init_82 : decode cX4_init 82 = .ok (.bipush 8, 2) := by decide +kernel
theorem dX4_init_84 : decode cX4_init 84 = .ok (.if_icmp .ge 25, 3) := by decide +kernel
theorem dX4_init_87 : decode cX4_init 87 = .ok (.aload_n 0, 1) := by decide +kernel
theorem dX4_init_88 : decode cX4_init 88 = .ok (.getfield 11, 3) := by decide +kernel
theorem dX4_init_91 : decode cX4_init 91 = .ok (.iload_n 1, 1) := by decide +kernel
theorem dX4_init_92 : decode cX4_init 92 = .ok (.new 9, 3) := by decide +kernel
theorem dX4_init_95 : decode cX4_init 95 = .ok (.dup, 1) := by decide +kernel
theorem dX4_init_96 : decode cX4_init 96 = .ok (.sipush 200, 3) := by decide +kernel
theorem dX4_init_99 : decode cX4_init 99 = .ok (.invokespecial 21, 3) := by decide +kernel
theorem dX4_init_102 : decode cX4_init 102 = .ok (.aastore, 1) := by decide +kernel
theorem dX4_init_103 : decode cX4_init 103 = .ok (.iinc 1 1, 3) := by decide +kernel
theorem dX4_init_106 : decode cX4_init 106 = .ok (.goto (-25), 3) := by decide +kernel
theorem dX4_init_109 : decode cX4_init 109 = .ok (.iconst 0, 1) := by decide +kernel
theorem dX4_init_110 : decode cX4_init 110 = .ok (.istore_n 1, 1) := by decide +kernel
theorem dX4_init_111 : decode cX4_init 111 = .ok (.iload_n 1, 1) := by decide +kernel
theorem dX4_init_112 : decode cX4_init 112 = .ok (.iconst 4, 1) := by decide +kernel
theorem dX4_init_113 : decode cX4_init 113 = .ok (.if_icmp .ge 22, 3) := by decide +kernel
theorem dX4_init_116 : decode cX4_init 116 = .ok (.aload_n 0, 1) := by decide +kernel
theorem dX4_init_117 : decode cX4_init 117 = .ok (.getfield 17, 3) := by decide +kernel
theorem dX4_init_120 : decode cX4_init 120 = .ok (.iload_n 1, 1) := by decide +kernel
theorem dX4_init_121 : decode cX4_init 121 = .ok (.new 15, 3) := by decide +kernel
theorem dX4_init_124 : decode cX4_init 124 = .ok (.dup, 1) := by decide +kernel
theorem dX4_init_125 : decode cX4_init 125 = .ok (.invokespecial 31, 3) := by decide +kernel
theorem dX4_init_128 : decode cX4_init 128 = .ok (.aastore, 1) := by decide +kernel
theorem dX4_init_129 : decode cX4_init 129 = .ok (.iinc 1 1, 3) := by decide +kernel
theorem dX4_init_132 : decode cX4_init 132 = .ok (.goto (-21), 3) := by decide +kernel
theorem dX4_init_135 : decode cX4_init 135 = .ok (.return_, 1) := by decide +kernel
set_option maxRecDepth 20000 in
theorem ggX4_add_X4_isRegister : GoodIn wsX4_add wsX4_isRegister := goodIn_r _ [5] (by decide +kernel) (by decide +kernel)
set_option maxRecDepth 20000 in
theorem gX4_add_X4_isRegister : GoodIn wsX4_add (va_wsS RX4 47 yX4_isRegister wsX4_isRegister) := goodIn_app (goodIn_of _ (by decide +kernel)) ggX4_add_X4_isRegister
set_option maxRecDepth 20000 in
theorem ggX4_add_X0_hasRoomFor : GoodIn wsX4_add wsX0_hasRoomFor := goodIn_r _ [10, 11, 12, 24, 25] (by decide +kernel) (by decide +kernel)
set_option maxRecDepth 20000 in
theorem gX4_add_X0_hasRoomFor : GoodIn wsX4_add (wsV RX4 51 RX0 yX0_hasRoomFor wsX0_hasRoomFor) := goodIn_app (goodIn_of _ (by decide +kernel)) ggX4_add_X0_hasRoomFor
set_option maxRecDepth 20000 in
theorem ggX4_add_X0_append : GoodIn wsX4_add wsX0_append := goodIn_r _ [16, 12, 11, 24, 25] (by decide +kernel) (by decide +kernel)
set_option maxRecDepth 20000 in
theorem gX4_add_X0_append : GoodIn wsX4_add (wsV RX4 54 RX0 yX0_append wsX0_append) := goodIn_app (goodIn_of _ (by decide +kernel)) ggX4_add_X0_append
theorem dX4_add_0 : decode cX4_add 0 = .ok (.iload_n 1, 1) := by decide +kernel
theorem dX4_add_1 : decode cX4_add 1 = .ok (.invokestatic 47, 3) := by decide +kernel
theorem dX4_add_4 : decode cX4_add 4 = .ok (.ifCond .eq 14, 3) := by decide +kernel
theorem dX4_add_7 : decode cX4_add 7 = .ok (.iload_n 2, 1) := by decide +kernel
theorem dX4_add_8 : decode cX4_add 8 = .ok (.iconst 1, 1) := by decide +kernel
theorem dX4_add_9 : decode cX4_add 9 = .ok (.if_icmp .lt 9, 3) := by decide +kernel
theorem dX4_add_12 : decode cX4_add 12 = .ok (.iload_n 2, 1) := by decide +kernel
theorem dX4_add_13 : decode cX4_add 13 = .ok (.bipush 8, 2) := by decide +kernel
theorem dX4_add_15 : decode cX4_add 15 = .ok (.if_icmp .le 6, 3) := by decide +kernel
theorem dX4_add_18 : decode cX4_add 18 = .ok (.bipush (-2), 2) := by decide +kernel
theorem dX4_add_20 : decode cX4_add 20 = .ok (.ireturn, 1) := by decide +kernel
theorem dX4_add_21 : decode cX4_add 21 = .ok (.aload_n 0, 1) := by decide +kernel
theorem dX4_add_22 : decode cX4_add 22 = .ok (.getfield 11, 3) := by decide +kernel
theorem dX4_add_25 : decode cX4_add 25 = .ok (.iload_n 1, 1) := by decide +kernel
theorem dX4_add_26 : decode cX4_add 26 = .ok (.aaload, 1) := by decide +kernel
theorem dX4_add_27 : decode cX4_add 27 = .ok (.iload_n 2, 1) := by decide +kernel
theorem dX4_add_28 : decode cX4_add 28 = .ok (.invokevirtual 51, 3) := by decide +kernel
theorem dX4_add_31 : decode cX4_add 31 = .ok (.ifCond .ne 6, 3) := by decide +kernel
theorem dX4_add_34 : decode cX4_add 34 = .ok (.bipush (-3), 2) := by decide +kernel
theorem dX4_add_36 : decode cX4_add 36 = .ok (.ireturn, 1) := by decide +kernel
theorem dX4_add_37 : decode cX4_add 37 = .ok (.iconst 0, 1) := by decide +kernel
theorem dX4_add_38 : decode cX4_add 38 = .ok (.istore 5, 2) := by decide +kernel
theorem dX4_add_40 : decode cX4_add 40 = .ok (.iload 5, 2) := by decide +kernel
theorem dX4_add_42 : decode cX4_add 42 = .ok (.iload_n 2, 1) := by decide +kernel
theorem dX4_add_43 : decode cX4_add 43 = .ok (.if_icmp .ge 26, 3) := by decide +kernel
theorem dX4_add_46 : decode cX4_add 46 = .ok (.aload_n 0, 1) := by decide +kernel
theorem dX4_add_47 : decode cX4_add 47 = .ok (.getfield 11, 3) := by decide +kernel
theorem dX4_add_50 : decode cX4_add 50 = .ok (.iload_n 1, 1) := by decide +kernel
theorem dX4_add_51 : decode cX4_add 51 = .ok (.aaload, 1) := by decide +kernel
theorem dX4_add_52 : decode cX4_add 52 = .ok (.lload_n 3, 1) := by decide +kernel
theorem dX4_add_53 : decode cX4_add 53 = .ok (.bipush 8, 2) := by decide +kernel
theorem dX4_add_55 : decode cX4_add 55 = .ok (.iload 5, 2) := by decide +kernel
theorem dX4_add_57 : decode cX4_add 57 = .ok (.imul, 1) := by decide +kernel
theorem dX4_add_58 : decode cX4_add 58 = .ok (.lushr, 1) := by decide +kernel
theorem dX4_add_59 : decode cX4_add 59 = .ok (.l2i, 1) := by decide +kernel
theorem dX4_add_60 : decode cX4_add 60 = .ok (.invokevirtual 54, 3) := by decide +kernel
theorem dX4_add_63 : decode cX4_add 63 = .ok (.iinc 5 1, 3) := by decide +kernel
theorem dX4_add_66 : decode cX4_add 66 = .ok (.goto (-26), 3) := by decide +kernel
theorem dX4_add_69 : decode cX4_add 69 = .ok (.aload_n 0, 1) := by decide +kernel
theorem dX4_add_70 : decode cX4_add 70 = .ok (.getfield 11, 3) := by decide +kernel
theorem dX4_add_73 : decode cX4_add 73 = .ok (.iload_n 1, 1) := by decide +kernel
theorem dX4_add_74 : decode cX4_add 74 = .ok (.aaload, 1) := by decide +kernel
theorem dX4_add_75 : decode cX4_add 75 = .ok (.getfield 57, 3) := by decide +kernel
theorem dX4_add_78 : decode cX4_add 78 = .ok (.ireturn, 1) := by decide +kernel
set_option maxRecDepth 20000 in
theorem ggX4_clear_X4_isRegister : GoodIn wsX4_clear wsX4_isRegister := goodIn_r _ [5] (by decide +kernel) (by decide +kernel)
set_option maxRecDepth 20000 in
theorem gX4_clear_X4_isRegister : GoodIn wsX4_clear (va_wsS RX4 47 yX4_isRegister wsX4_isRegister) := goodIn_app (goodIn_of _ (by decide +kernel)) ggX4_clear_X4_isRegister
set_option maxRecDepth 20000 in
theorem ggX4_clear_X0_keepFirst : GoodIn wsX4_clear wsX0_keepFirst := goodIn_r _ [10, 11, 19, 20] (by decide +kernel) (by decide +kernel)
set_option maxRecDepth 20000 in
theorem gX4_clear_X0_keepFirst : GoodIn wsX4_clear (wsV RX4 61 RX0 yX0_keepFirst wsX0_keepFirst) := goodIn_app (goodIn_of _ (by decide +kernel)) ggX4_clear_X0_keepFirst
theorem dX4_clear_0 : decode cX4_clear 0 = .ok (.iload_n 1, 1) := by decide +kernel
theorem dX4_clear_1 : decode cX4_clear 1 = .ok (.invokestatic 47, 3) := by decide +kernel
theorem dX4_clear_4 : decode cX4_clear 4 = .ok (.ifCond .eq 16, 3) := by decide +kernel
theorem dX4_clear_7 : decode cX4_clear 7 = .ok (.aload_n 0, 1) := by decide +kernel
theorem dX4_clear_8 : decode cX4_clear 8 = .ok (.getfield 11, 3) := by decide +kernel
theorem dX4_clear_11 : decode cX4_clear 11 = .ok (.iload_n 1, 1) := by decide +kernel
theorem dX4_clear_12 : decode cX4_clear 12 = .ok (.aaload, 1) := by decide +kernel
theorem dX4_clear_13 : decode cX4_clear 13 = .ok (.iconst 0, 1) := by decide +kernel
theorem dX4_clear_14 : decode cX4_clear 14 = .ok (.invokevirtual 61, 3) := by decide +kernel
theorem dX4_clear_17 : decode cX4_clear 17 = .ok (.goto 5, 3) := by decide +kernel
theorem dX4_clear_20 : decode cX4_clear 20 = .ok (.bipush (-2), 2) := by decide +kernel
theorem dX4_clear_22 : decode cX4_clear 22 = .ok (.ireturn, 1) := by decide +kernel
set_option maxRecDepth 20000 in
theorem ggX4_size_X4_isRegister : GoodIn wsX4_size wsX4_isRegister := goodIn_r _ [5] (by decide +kernel) (by decide +kernel)
set_option maxRecDepth 20000 in
theorem gX4_size_X4_isRegister : GoodIn wsX4_size (va_wsS RX4 47 yX4_isRegister wsX4_isRegister) := goodIn_app (goodIn_of _ (by decide +kernel)) ggX4_size_X4_isRegister
theorem dX4_size_0 : decode cX4_size 0 = .ok (.iload_n 1, 1) := by decide +kernel
theorem dX4_size_1 : decode cX4_size 1 = .ok (.invokestatic 47, 3) := by decide +kernel
theorem dX4_size_4 : decode cX4_size 4 = .ok (.ifCond .eq 15, 3) := by decide +kernel
theorem dX4_size_7 : decode cX4_size 7 = .ok (.aload_n 0, 1) := by decide +kernel
theorem dX4_size_8 : decode cX4_size 8 = .ok (.getfield 11, 3) := by decide +kernel
theorem dX4_size_11 : decode cX4_size 11 = .ok (.iload_n 1, 1) := by decide +kernel
theorem dX4_size_12 : decode cX4_size 12 = .ok (.aaload, 1) := by decide +kernel
theorem dX4_size_13 : decode cX4_size 13 = .ok (.getfield 57, 3) := by decide +kernel
theorem dX4_size_16 : decode cX4_size 16 = .ok (.goto 5, 3) := by decide +kernel
theorem dX4_size_19 : decode cX4_size 19 = .ok (.bipush (-2), 2) := by decide +kernel
theorem dX4_size_21 : decode cX4_size 21 = .ok (.ireturn, 1) := by decide +kernel
set_option maxRecDepth 20000 in
theorem ggX4_at_X4_isRegister : GoodIn wsX4_at wsX4_isRegister := goodIn_r _ [5] (by decide +kernel) (by decide +kernel)
set_option maxRecDepth 20000 in
theorem gX4_at_X4_isRegister : GoodIn wsX4_at (va_wsS RX4 47 yX4_isRegister wsX4_isRegister) := goodIn_app (goodIn_of _ (by decide +kernel)) ggX4_at_X4_isRegister
set_option maxRecDepth 20000 in
theorem ggX4_at_X0_byteAt : GoodIn wsX4_at wsX0_byteAt := goodIn_r _ [10, 11, 12, 20, 21] (by decide +kernel) (by decide +kernel)
set_option maxRecDepth 20000 in
theorem gX4_at_X0_byteAt : GoodIn wsX4_at (wsV RX4 65 RX0 yX0_byteAt wsX0_byteAt) := goodIn_app (goodIn_of _ (by decide +kernel)) ggX4_at_X0_byteAt
theorem dX4_at_0 : decode cX4_at 0 = .ok (.iload_n 1, 1) := by decide +kernel
theorem dX4_at_1 : decode cX4_at 1 = .ok (.invokestatic 47, 3) := by decide +kernel
theorem dX4_at_4 : decode cX4_at 4 = .ok (.ifCond .eq 16, 3) := by decide +kernel
theorem dX4_at_7 : decode cX4_at 7 = .ok (.aload_n 0, 1) := by decide +kernel
theorem dX4_at_8 : decode cX4_at 8 = .ok (.getfield 11, 3) := by decide +kernel
theorem dX4_at_11 : decode cX4_at 11 = .ok (.iload_n 1, 1) := by decide +kernel
theorem dX4_at_12 : decode cX4_at 12 = .ok (.aaload, 1) := by decide +kernel
theorem dX4_at_13 : decode cX4_at 13 = .ok (.iload_n 2, 1) := by decide +kernel
theorem dX4_at_14 : decode cX4_at 14 = .ok (.invokevirtual 65, 3) := by decide +kernel
theorem dX4_at_17 : decode cX4_at 17 = .ok (.goto 5, 3) := by decide +kernel
theorem dX4_at_20 : decode cX4_at 20 = .ok (.bipush (-2), 2) := by decide +kernel
theorem dX4_at_22 : decode cX4_at 22 = .ok (.ireturn, 1) := by decide +kernel
set_option maxRecDepth 20000 in
theorem ggX4_begin_X4_isHasher : GoodIn wsX4_begin wsX4_isHasher := goodIn_r _ [8] (by decide +kernel) (by decide +kernel)
set_option maxRecDepth 20000 in
theorem gX4_begin_X4_isHasher : GoodIn wsX4_begin (va_wsS RX4 68 yX4_isHasher wsX4_isHasher) := goodIn_app (goodIn_of _ (by decide +kernel)) ggX4_begin_X4_isHasher
set_option maxRecDepth 20000 in
theorem ggX4_begin_X1_restart : GoodIn wsX4_begin wsX1_restart := goodIn_r _ [13, 14, 15, 16, 17, 18, 19, 20, 21, 22, 12, 23, 24, 25, 26, 27, 28, 29, 30, 31, 32, 33, 34, 35, 141, 142, 143, 144, 145, 146, 147, 148, 149, 150, 151, 152, 153] (by decide +kernel) (by decide +kernel)
set_option maxRecDepth 20000 in
theorem gX4_begin_X1_restart : GoodIn wsX4_begin (wsV RX4 76 RX1 yX1_restart wsX1_restart) := goodIn_app (goodIn_of _ (by decide +kernel)) ggX4_begin_X1_restart
set_option maxRecDepth 20000 in
theorem ggX4_begin_X4_isRegister : GoodIn wsX4_begin wsX4_isRegister := goodIn_r _ [38] (by decide +kernel) (by decide +kernel)
set_option maxRecDepth 20000 in
theorem gX4_begin_X4_isRegister : GoodIn wsX4_begin (va_wsS RX4 47 yX4_isRegister wsX4_isRegister) := goodIn_app (goodIn_of _ (by decide +kernel)) ggX4_begin_X4_isRegister
set_option maxRecDepth 20000 in
theorem ggX4_begin_X0_readChain : GoodIn wsX4_begin wsX0_readChain := goodIn_r _ [43, 44, 45, 46, 42, 47, 48, 49, 50, 51, 52, 53, 139, 140] (by decide +kernel) (by decide +kernel)
set_option maxRecDepth 20000 in
theorem gX4_begin_X0_readChain : GoodIn wsX4_begin (wsV RX4 80 RX0 yX0_readChain wsX0_readChain) := goodIn_app (goodIn_of _ (by decide +kernel)) ggX4_begin_X0_readChain
set_option maxRecDepth 20000 in
theorem ggX4_begin_X4_deriveKey : GoodIn wsX4_begin wsX4_deriveKey := goodIn_r _ [57, 58, 2, 4, 9, 10, 11, 12, 13, 14, 15, 16, 17, 18, 19, 20, 21, 22, 23, 24, 25, 26, 27, 28, 29, 30, 31, 32, 33, 34, 35, 59, 60, 61, 62, 63, 49, 50, 42, 51, 52, 53, 64, 65, 66, 67, 68, 69, 70, 71, 72, 73, 74, 75, 76, 77, 78, 79, 80, 81, 82, 83, 84, 85, 86, 87, 88, 89, 90, 91, 92, 93, 94, 95, 96, 97, 98, 99, 100, 101, 102, 103, 104, 105, 106, 107, 108, 109, 110, 111, 112, 113, 114, 115, 116, 117, 118, 119, 120, 121, 122, 123, 124, 125, 126, 127, 128, 129, 130, 131, 132, 133, 134, 135, 136, 137, 138, 139, 140, 141, 142, 143, 144, 145, 146, 147, 148, 149, 150, 151, 152, 153, 154, 155, 156, 157, 158, 159, 160, 161] (by decide +kernel) (by decide +kernel)
set_option maxRecDepth 20000 in
theorem gX4_begin_X4_deriveKey : GoodIn wsX4_begin (wsV RX4 84 RX4 yX4_deriveKey wsX4_deriveKey) := goodIn_app (goodIn_of _ (by decide +kernel)) ggX4_begin_X4_deriveKey
theorem dX4_begin_0 : decode cX4_begin 0 = .ok (.iload_n 1, 1) := by decide +kernel
theorem dX4_begin_1 : decode cX4_begin 1 = .ok (.invokestatic 68, 3) := by decide +kernel
theorem dX4_begin_4 : decode cX4_begin 4 = .ok (.ifCond .ne 6, 3) := by decide +kernel
theorem dX4_begin_7 : decode cX4_begin 7 = .ok (.bipush (-2), 2) := by decide +kernel
theorem dX4_begin_9 : decode cX4_begin 9 = .ok (.ireturn, 1) := by decide +kernel
theorem dX4_begin_10 : decode cX4_begin 10 = .ok (.iload_n 2, 1) := by decide +kernel
theorem dX4_begin_11 : decode cX4_begin 11 = .ok (.ifCond .ne 20, 3) := by decide +kernel
theorem dX4_begin_14 : decode cX4_begin 14 = .ok (.aload_n 0, 1) := by decide +kernel
theorem dX4_begin_15 : decode cX4_begin 15 = .ok (.getfield 17, 3) := by decide +kernel
theorem dX4_begin_18 : decode cX4_begin 18 = .ok (.iload_n 1, 1) := by decide +kernel
theorem dX4_begin_19 : decode cX4_begin 19 = .ok (.aaload, 1) := by decide +kernel
theorem dX4_begin_20 : decode cX4_begin 20 = .ok (.iconst 0, 1) := by decide +kernel
theorem dX4_begin_21 : decode cX4_begin 21 = .ok (.iconst 0, 1) := by decide +kernel
theorem dX4_begin_22 : decode cX4_begin 22 = .ok (.getstatic 71, 3) := by decide +kernel
theorem dX4_begin_25 : decode cX4_begin 25 = .ok (.iconst 0, 1) := by decide +kernel
theorem dX4_begin_26 : decode cX4_begin 26 = .ok (.invokevirtual 76, 3) := by decide +kernel
theorem dX4_begin_29 : decode cX4_begin 29 = .ok (.iconst 0, 1) := by decide +kernel
theorem dX4_begin_30 : decode cX4_begin 30 = .ok (.ireturn, 1) := by decide +kernel
theorem dX4_begin_31 : decode cX4_begin 31 = .ok (.iload_n 3, 1) := by decide +kernel
theorem dX4_begin_32 : decode cX4_begin 32 = .ok (.invokestatic 47, 3) := by decide +kernel
theorem dX4_begin_35 : decode cX4_begin 35 = .ok (.ifCond .ne 6, 3) := by decide +kernel
theorem dX4_begin_38 : decode cX4_begin 38 = .ok (.bipush (-2), 2) := by decide +kernel
theorem dX4_begin_40 : decode cX4_begin 40 = .ok (.ireturn, 1) := by decide +kernel
theorem dX4_begin_41 : decode cX4_begin 41 = .ok (.iload_n 2, 1) := by decide +kernel
theorem dX4_begin_42 : decode cX4_begin 42 = .ok (.iconst 1, 1) := by decide +kernel
theorem dX4_begin_43 : decode cX4_begin 43 = .ok (.if_icmp .ne 50, 3) := by decide +kernel
theorem dX4_begin_46 : decode cX4_begin 46 = .ok (.aload_n 0, 1) := by decide +kernel
theorem dX4_begin_47 : decode cX4_begin 47 = .ok (.getfield 11, 3) := by decide +kernel
theorem dX4_begin_50 : decode cX4_begin 50 = .ok (.iload_n 3, 1) := by decide +kernel
theorem dX4_begin_51 : decode cX4_begin 51 = .ok (.aaload, 1) := by decide +kernel
theorem dX4_begin_52 : decode cX4_begin 52 = .ok (.getfield 57, 3) := by decide +kernel
theorem dX4_begin_55 : decode cX4_begin 55 = .ok (.bipush 32, 2) := by decide +kernel
theorem dX4_begin_57 : decode cX4_begin 57 = .ok (.if_icmp .ne 36, 3) := by decide +kernel
theorem dX4_begin_60 : decode cX4_begin 60 = .ok (.aload_n 0, 1) := by decide +kernel
theorem dX4_begin_61 : decode cX4_begin 61 = .ok (.getfield 11, 3) := by decide +kernel
theorem dX4_begin_64 : decode cX4_begin 64 = .ok (.iload_n 3, 1) := by decide +kernel
theorem dX4_begin_65 : decode cX4_begin 65 = .ok (.aaload, 1) := by decide +kernel
theorem dX4_begin_66 : decode cX4_begin 66 = .ok (.iconst 0, 1) := by decide +kernel
theorem dX4_begin_67 : decode cX4_begin 67 = .ok (.aload_n 0, 1) := by decide +kernel
theorem dX4_begin_68 : decode cX4_begin 68 = .ok (.getfield 43, 3) := by decide +kernel
theorem dX4_begin_71 : decode cX4_begin 71 = .ok (.invokevirtual 80, 3) := by decide +kernel
theorem dX4_begin_74 : decode cX4_begin 74 = .ok (.aload_n 0, 1) := by decide +kernel
theorem dX4_begin_75 : decode cX4_begin 75 = .ok (.getfield 17, 3) := by decide +kernel
theorem dX4_begin_78 : decode cX4_begin 78 = .ok (.iload_n 1, 1) := by decide +kernel
theorem dX4_begin_79 : decode cX4_begin 79 = .ok (.aaload, 1) := by decide +kernel
theorem dX4_begin_80 : decode cX4_begin 80 = .ok (.iconst 1, 1) := by decide +kernel
theorem dX4_begin_81 : decode cX4_begin 81 = .ok (.bipush 16, 2) := by decide +kernel
theorem dX4_begin_83 : decode cX4_begin 83 = .ok (.aload_n 0, 1) := by decide +kernel
theorem dX4_begin_84 : decode cX4_begin 84 = .ok (.getfield 43, 3) := by decide +kernel
theorem dX4_begin_87 : decode cX4_begin 87 = .ok (.iconst 0, 1) := by decide +kernel
theorem dX4_begin_88 : decode cX4_begin 88 = .ok (.invokevirtual 76, 3) := by decide +kernel
theorem dX4_begin_91 : decode cX4_begin 91 = .ok (.iconst 0, 1) := by decide +kernel
theorem dX4_begin_92 : decode cX4_begin 92 = .ok (.ireturn, 1) := by decide +kernel
theorem dX4_begin_93 : decode cX4_begin 93 = .ok (.iload_n 2, 1) := by decide +kernel
theorem dX4_begin_94 : decode cX4_begin 94 = .ok (.iconst 2, 1) := by decide +kernel
theorem dX4_begin_95 : decode cX4_begin 95 = .ok (.if_icmp .ne 32, 3) := by decide +kernel
theorem dX4_begin_98 : decode cX4_begin 98 = .ok (.aload_n 0, 1) := by decide +kernel
theorem dX4_begin_99 : decode cX4_begin 99 = .ok (.aload_n 0, 1) := by decide +kernel
theorem dX4_begin_100 : decode cX4_begin 100 = .ok (.getfield 11, 3) := by decide +kernel
theorem dX4_begin_103 : decode cX4_begin 103 = .ok (.iload_n 3, 1) := by decide +kernel
theorem dX4_begin_104 : decode cX4_begin 104 = .ok (.aaload, 1) := by decide +kernel
theorem dX4_begin_105 : decode cX4_begin 105 = .ok (.invokevirtual 84, 3) := by decide +kernel
theorem dX4_begin_108 : decode cX4_begin 108 = .ok (.aload_n 0, 1) := by decide +kernel
theorem dX4_begin_109 : decode cX4_begin 109 = .ok (.getfield 17, 3) := by decide +kernel
theorem dX4_begin_112 : decode cX4_begin 112 = .ok (.iload_n 1, 1) := by decide +kernel
theorem dX4_begin_113 : decode cX4_begin 113 = .ok (.aaload, 1) := by decide +kernel
theorem dX4_begin_114 : decode cX4_begin 114 = .ok (.iconst 2, 1) := by decide +kernel
theorem dX4_begin_115 : decode cX4_begin 115 = .ok (.bipush 64, 2) := by decide +kernel
theorem dX4_begin_117 : decode cX4_begin 117 = .ok (.aload_n 0, 1) := by decide +kernel
theorem dX4_begin_118 : decode cX4_begin 118 = .ok (.getfield 43, 3) := by decide +kernel
theorem dX4_begin_121 : decode cX4_begin 121 = .ok (.iconst 0, 1) := by decide +kernel
theorem dX4_begin_122 : decode cX4_begin 122 = .ok (.invokevirtual 76, 3) := by decide +kernel
theorem dX4_begin_125 : decode cX4_begin 125 = .ok (.iconst 0, 1) := by decide +kernel
theorem dX4_begin_126 : decode cX4_begin 126 = .ok (.ireturn, 1) := by decide +kernel
theorem dX4_begin_127 : decode cX4_begin 127 = .ok (.bipush (-2), 2) := by decide +kernel
theorem dX4_begin_129 : decode cX4_begin 129 = .ok (.ireturn, 1) := by decide +kernel
set_option maxRecDepth 20000 in
theorem ggX4_take_X4_isHasher : GoodIn wsX4_take wsX4_isHasher := goodIn_r _ [7] (by decide +kernel) (by decide +kernel)
set_option maxRecDepth 20000 in
theorem gX4_take_X4_isHasher : GoodIn wsX4_take (va_wsS RX4 68 yX4_isHasher wsX4_isHasher) := goodIn_app (goodIn_of _ (by decide +kernel)) ggX4_take_X4_isHasher
set_option maxRecDepth 20000 in
theorem ggX4_take_X4_isRegister : GoodIn wsX4_take wsX4_isRegister := goodIn_r _ [10] (by decide +kernel) (by decide +kernel)
set_option maxRecDepth 20000 in
theorem gX4_take_X4_isRegister : GoodIn wsX4_take (va_wsS RX4 47 yX4_isRegister wsX4_isRegister) := goodIn_app (goodIn_of _ (by decide +kernel)) ggX4_take_X4_isRegister
set_option maxRecDepth 20000 in
theorem ggX4_take_X1_absorb : GoodIn wsX4_take wsX1_absorb := goodIn_r _ [15, 16, 17, 18, 19, 20, 21, 22, 23, 24, 25, 14, 26, 27, 28, 29, 30, 31, 32, 33, 34, 35, 36, 37, 38, 39, 40, 41, 42, 43, 44, 45, 46, 47, 48, 49, 50, 51, 52, 53, 54, 55, 56, 57, 58, 59, 60, 61, 62, 63, 64, 65, 66, 67, 68, 69, 70, 71, 72, 73, 74, 75, 76, 77, 78, 79, 80, 81, 82, 83, 84, 85, 86, 87, 88, 89, 90, 91, 92, 93, 94, 95, 96, 97, 98, 99, 100, 101, 109, 110, 111, 112, 113, 114, 115, 116, 117, 118, 119, 120, 121, 122, 123, 124, 125, 126, 127, 128, 129, 130, 131] (by decide +kernel) (by decide +kernel)
set_option maxRecDepth 20000 in
theorem gX4_take_X1_absorb : GoodIn wsX4_take (wsV RX4 92 RX1 yX1_absorb wsX1_absorb) := goodIn_app (goodIn_of _ (by decide +kernel)) ggX4_take_X1_absorb
theorem dX4_take_0 : decode cX4_take 0 = .ok (.iload_n 1, 1) := by decide +kernel
theorem dX4_take_1 : decode cX4_take 1 = .ok (.invokestatic 68, 3) := by decide +kernel
theorem dX4_take_4 : decode cX4_take 4 = .ok (.ifCond .eq 10, 3) := by decide +kernel
theorem dX4_take_7 : decode cX4_take 7 = .ok (.iload_n 2, 1) := by decide +kernel
theorem dX4_take_8 : decode cX4_take 8 = .ok (.invokestatic 47, 3) := by decide +kernel
theorem dX4_take_11 : decode cX4_take 11 = .ok (.ifCond .ne 6, 3) := by decide +kernel
theorem dX4_take_14 : decode cX4_take 14 = .ok (.bipush (-2), 2) := by decide +kernel
theorem dX4_take_16 : decode cX4_take 16 = .ok (.ireturn, 1) := by decide +kernel
theorem dX4_take_17 : decode cX4_take 17 = .ok (.aload_n 0, 1) := by decide +kernel
theorem dX4_take_18 : decode cX4_take 18 = .ok (.getfield 11, 3) := by decide +kernel
theorem dX4_take_21 : decode cX4_take 21 = .ok (.iload_n 2, 1) := by decide +kernel
theorem dX4_take_22 : decode cX4_take 22 = .ok (.aaload, 1) := by decide +kernel
theorem dX4_take_23 : decode cX4_take 23 = .ok (.getfield 57, 3) := by decide +kernel
theorem dX4_take_26 : decode cX4_take 26 = .ok (.ldc 88, 2) := by decide +kernel
theorem dX4_take_28 : decode cX4_take 28 = .ok (.aload_n 0, 1) := by decide +kernel
theorem dX4_take_29 : decode cX4_take 29 = .ok (.getfield 17, 3) := by decide +kernel
theorem dX4_take_32 : decode cX4_take 32 = .ok (.iload_n 1, 1) := by decide +kernel
theorem dX4_take_33 : decode cX4_take 33 = .ok (.aaload, 1) := by decide +kernel
theorem dX4_take_34 : decode cX4_take 34 = .ok (.getfield 89, 3) := by decide +kernel
theorem dX4_take_37 : decode cX4_take 37 = .ok (.isub, 1) := by decide +kernel
theorem dX4_take_38 : decode cX4_take 38 = .ok (.if_icmp .le 6, 3) := by decide +kernel
theorem dX4_take_41 : decode cX4_take 41 = .ok (.bipush (-3), 2) := by decide +kernel
theorem dX4_take_43 : decode cX4_take 43 = .ok (.ireturn, 1) := by decide +kernel
theorem dX4_take_44 : decode cX4_take 44 = .ok (.aload_n 0, 1) := by decide +kernel
theorem dX4_take_45 : decode cX4_take 45 = .ok (.getfield 17, 3) := by decide +kernel
theorem dX4_take_48 : decode cX4_take 48 = .ok (.iload_n 1, 1) := by decide +kernel
theorem dX4_take_49 : decode cX4_take 49 = .ok (.aaload, 1) := by decide +kernel
theorem dX4_take_50 : decode cX4_take 50 = .ok (.aload_n 0, 1) := by decide +kernel
theorem dX4_take_51 : decode cX4_take 51 = .ok (.getfield 11, 3) := by decide +kernel
theorem dX4_take_54 : decode cX4_take 54 = .ok (.iload_n 2, 1) := by decide +kernel
theorem dX4_take_55 : decode cX4_take 55 = .ok (.aaload, 1) := by decide +kernel
theorem dX4_take_56 : decode cX4_take 56 = .ok (.iconst 0, 1) := by decide +kernel
theorem dX4_take_57 : decode cX4_take 57 = .ok (.aload_n 0, 1) := by decide +kernel
theorem dX4_take_58 : decode cX4_take 58 = .ok (.getfield 11, 3) := by decide +kernel
theorem dX4_take_61 : decode cX4_take 61 = .ok (.iload_n 2, 1) := by decide +kernel
theorem dX4_take_62 : decode cX4_take 62 = .ok (.aaload, 1) := by decide +kernel
theorem dX4_take_63 : decode cX4_take 63 = .ok (.getfield 57, 3) := by decide +kernel
theorem dX4_take_66 : decode cX4_take 66 = .ok (.invokevirtual 92, 3) := by decide +kernel
theorem dX4_take_69 : decode cX4_take 69 = .ok (.aload_n 0, 1) := by decide +kernel
theorem dX4_take_70 : decode cX4_take 70 = .ok (.getfield 17, 3) := by decide +kernel
theorem dX4_take_73 : decode cX4_take 73 = .ok (.iload_n 1, 1) := by decide +kernel
theorem dX4_take_74 : decode cX4_take 74 = .ok (.aaload, 1) := by decide +kernel
theorem dX4_take_75 : decode cX4_take 75 = .ok (.getfield 89, 3) := by decide +kernel
theorem dX4_take_78 : decode cX4_take 78 = .ok (.ireturn, 1) := by decide +kernel
set_option maxRecDepth 20000 in
theorem ggX4_fill_X4_isHasher : GoodIn wsX4_fill wsX4_isHasher := goodIn_r _ [6] (by decide +kernel) (by decide +kernel)
set_option maxRecDepth 20000 in
theorem gX4_fill_X4_isHasher : GoodIn wsX4_fill (va_wsS RX4 68 yX4_isHasher wsX4_isHasher) := goodIn_app (goodIn_of _ (by decide +kernel)) ggX4_fill_X4_isHasher
set_option maxRecDepth 20000 in
theorem ggX4_fill_X1_absorbByte : GoodIn wsX4_fill wsX1_absorbByte := goodIn_r _ [11, 12, 13, 14, 15, 16, 17, 18, 10, 19, 20, 21, 22, 23, 24, 25, 26, 27, 28, 29, 30, 31, 32, 33, 34, 35, 36, 37, 38, 39, 40, 41, 42, 43, 44, 45, 46, 47, 48, 49, 50, 51, 52, 53, 54, 55, 56, 57, 58, 59, 60, 61, 62, 63, 64, 65, 66, 67, 68, 69, 70, 71, 72, 73, 74, 75, 76, 77, 78, 79, 80, 81, 82, 83, 84, 85, 86, 94, 95, 96, 97, 98, 99, 100, 101, 102, 103, 104, 105, 106, 107, 108, 109, 110, 111, 112, 113, 114] (by decide +kernel) (by decide +kernel)
set_option maxRecDepth 20000 in
theorem gX4_fill_X1_absorbByte : GoodIn wsX4_fill (wsV RX4 96 RX1 yX1_absorbByte wsX1_absorbByte) := goodIn_app (goodIn_of _ (by decide +kernel)) ggX4_fill_X1_absorbByte
theorem dX4_fill_0 : decode cX4_fill 0 = .ok (.iload_n 1, 1) := by decide +kernel
theorem dX4_fill_1 : decode cX4_fill 1 = .ok (.invokestatic 68, 3) := by decide +kernel
theorem dX4_fill_4 : decode cX4_fill 4 = .ok (.ifCond .eq 14, 3) := by decide +kernel
theorem dX4_fill_7 : decode cX4_fill 7 = .ok (.iload_n 2, 1) := by decide +kernel
theorem dX4_fill_8 : decode cX4_fill 8 = .ok (.ifCond .lt 10, 3) := by decide +kernel
theorem dX4_fill_11 : decode cX4_fill 11 = .ok (.iload_n 2, 1) := by decide +kernel
theorem dX4_fill_12 : decode cX4_fill 12 = .ok (.sipush 5000, 3) := by decide +kernel
theorem dX4_fill_15 : decode cX4_fill 15 = .ok (.if_icmp .le 6, 3) := by decide +kernel
theorem dX4_fill_18 : decode cX4_fill 18 = .ok (.bipush (-2), 2) := by decide +kernel
theorem dX4_fill_20 : decode cX4_fill 20 = .ok (.ireturn, 1) := by decide +kernel
theorem dX4_fill_21 : decode cX4_fill 21 = .ok (.iload_n 2, 1) := by decide +kernel
theorem dX4_fill_22 : decode cX4_fill 22 = .ok (.ldc 88, 2) := by decide +kernel
theorem dX4_fill_24 : decode cX4_fill 24 = .ok (.aload_n 0, 1) := by decide +kernel
theorem dX4_fill_25 : decode cX4_fill 25 = .ok (.getfield 17, 3) := by decide +kernel
theorem dX4_fill_28 : decode cX4_fill 28 = .ok (.iload_n 1, 1) := by decide +kernel
theorem dX4_fill_29 : decode cX4_fill 29 = .ok (.aaload, 1) := by decide +kernel
theorem dX4_fill_30 : decode cX4_fill 30 = .ok (.getfield 89, 3) := by decide +kernel
theorem dX4_fill_33 : decode cX4_fill 33 = .ok (.isub, 1) := by decide +kernel
theorem dX4_fill_34 : decode cX4_fill 34 = .ok (.if_icmp .le 6, 3) := by decide +kernel
theorem dX4_fill_37 : decode cX4_fill 37 = .ok (.bipush (-3), 2) := by decide +kernel
theorem dX4_fill_39 : decode cX4_fill 39 = .ok (.ireturn, 1) := by decide +kernel
theorem dX4_fill_40 : decode cX4_fill 40 = .ok (.iconst 0, 1) := by decide +kernel
theorem dX4_fill_41 : decode cX4_fill 41 = .ok (.istore 5, 2) := by decide +kernel
theorem dX4_fill_43 : decode cX4_fill 43 = .ok (.iload 5, 2) := by decide +kernel
theorem dX4_fill_45 : decode cX4_fill 45 = .ok (.iload_n 2, 1) := by decide +kernel
theorem dX4_fill_46 : decode cX4_fill 46 = .ok (.if_icmp .ge 25, 3) := by decide +kernel
theorem dX4_fill_49 : decode cX4_fill 49 = .ok (.aload_n 0, 1) := by decide +kernel
theorem dX4_fill_50 : decode cX4_fill 50 = .ok (.getfield 17, 3) := by decide +kernel
theorem dX4_fill_53 : decode cX4_fill 53 = .ok (.iload_n 1, 1) := by decide +kernel
theorem dX4_fill_54 : decode cX4_fill 54 = .ok (.aaload, 1) := by decide +kernel
theorem dX4_fill_55 : decode cX4_fill 55 = .ok (.iload_n 3, 1) := by decide +kernel
theorem dX4_fill_56 : decode cX4_fill 56 = .ok (.iload 5, 2) := by decide +kernel
theorem dX4_fill_58 : decode cX4_fill 58 = .ok (.iload 4, 2) := by decide +kernel
theorem dX4_fill_60 : decode cX4_fill 60 = .ok (.imul, 1) := by decide +kernel
theorem dX4_fill_61 : decode cX4_fill 61 = .ok (.iadd, 1) := by decide +kernel
theorem dX4_fill_62 : decode cX4_fill 62 = .ok (.invokevirtual 96, 3) := by decide +kernel
theorem dX4_fill_65 : decode cX4_fill 65 = .ok (.iinc 5 1, 3) := by decide +kernel
theorem dX4_fill_68 : decode cX4_fill 68 = .ok (.goto (-25), 3) := by decide +kernel
theorem dX4_fill_71 : decode cX4_fill 71 = .ok (.aload_n 0, 1) := by decide +kernel
theorem dX4_fill_72 : decode cX4_fill 72 = .ok (.getfield 17, 3) := by decide +kernel
theorem dX4_fill_75 : decode cX4_fill 75 = .ok (.iload_n 1, 1) := by decide +kernel
theorem dX4_fill_76 : decode cX4_fill 76 = .ok (.aaload, 1) := by decide +kernel
theorem dX4_fill_77 : decode cX4_fill 77 = .ok (.getfield 89, 3) := by decide +kernel
theorem dX4_fill_80 : decode cX4_fill 80 = .ok (.ireturn, 1) := by decide +kernel
set_option maxRecDepth 20000 in
theorem ggX4_output_X4_isHasher : GoodIn wsX4_output wsX4_isHasher := goodIn_r _ [7] (by decide +kernel) (by decide +kernel)
set_option maxRecDepth 20000 in
theorem gX4_output_X4_isHasher : GoodIn wsX4_output (va_wsS RX4 68 yX4_isHasher wsX4_isHasher) := goodIn_app (goodIn_of _ (by decide +kernel)) ggX4_output_X4_isHasher
set_option maxRecDepth 20000 in
theorem ggX4_output_X4_isRegister : GoodIn wsX4_output wsX4_isRegister := goodIn_r _ [10] (by decide +kernel) (by decide +kernel)
set_option maxRecDepth 20000 in
theorem gX4_output_X4_isRegister : GoodIn wsX4_output (va_wsS RX4 47 yX4_isRegister wsX4_isRegister) := goodIn_app (goodIn_of _ (by decide +kernel)) ggX4_output_X4_isRegister
set_option maxRecDepth 20000 in
theorem ggX4_output_X1_prepareLast : GoodIn wsX4_output wsX1_prepareLast := goodIn_r _ [15, 16, 17, 18, 19, 20, 21, 22, 23, 14, 24, 25, 26, 27, 28, 29, 30, 31, 32, 33, 34, 35, 36, 37, 38, 39, 40, 41, 42, 43, 44, 45, 46, 47, 48, 49, 50, 51, 52, 53, 54, 55, 56, 57, 58, 59, 60, 61, 62, 63, 64, 65, 66, 99, 100, 101, 102, 103, 104, 105, 106, 107, 108, 109, 110, 111, 112, 113, 114, 115, 116, 117, 118, 119] (by decide +kernel) (by decide +kernel)
set_option maxRecDepth 20000 in
theorem gX4_output_X1_prepareLast : GoodIn wsX4_output (wsV RX4 101 RX1 yX1_prepareLast wsX1_prepareLast) := goodIn_app (goodIn_of _ (by decide +kernel)) ggX4_output_X1_prepareLast
set_option maxRecDepth 20000 in
theorem ggX4_output_X2_writeOutput : GoodIn wsX4_output wsX2_writeOutput := goodIn_r _ [70, 71, 38, 72, 73, 74, 75, 76, 77, 78, 79, 80, 34, 81, 40, 82, 42, 43, 44, 45, 46, 36, 47, 48, 49, 50, 51, 39, 37, 52, 53, 54, 55, 56, 57, 58, 59, 60, 61, 83, 84, 85, 86, 87, 88, 89, 90, 91, 112, 113, 114, 115, 116, 117, 118, 119, 120, 121] (by decide +kernel) (by decide +kernel)
set_option maxRecDepth 20000 in
theorem gX4_output_X2_writeOutput : GoodIn wsX4_output (wsV RX4 108 RX2 yX2_writeOutput wsX2_writeOutput) := goodIn_app (goodIn_of _ (by decide +kernel)) ggX4_output_X2_writeOutput
theorem dX4_output_0 : decode cX4_output 0 = .ok (.iload_n 1, 1) := by decide +kernel
theorem dX4_output_1 : decode cX4_output 1 = .ok (.invokestatic 68, 3) := by decide +kernel
theorem dX4_output_4 : decode cX4_output 4 = .ok (.ifCond .eq 21, 3) := by decide +kernel
theorem dX4_output_7 : decode cX4_output 7 = .ok (.iload_n 2, 1) := by decide +kernel
theorem dX4_output_8 : decode cX4_output 8 = .ok (.invokestatic 47, 3) := by decide +kernel
theorem dX4_output_11 : decode cX4_output 11 = .ok (.ifCond .eq 14, 3) := by decide +kernel
theorem dX4_output_14 : decode cX4_output 14 = .ok (.iload_n 3, 1) := by decide +kernel
theorem dX4_output_15 : decode cX4_output 15 = .ok (.ifCond .lt 10, 3) := by decide +kernel
theorem dX4_output_18 : decode cX4_output 18 = .ok (.iload_n 3, 1) := by decide +kernel
theorem dX4_output_19 : decode cX4_output 19 = .ok (.sipush 200, 3) := by decide +kernel
theorem dX4_output_22 : decode cX4_output 22 = .ok (.if_icmp .le 6, 3) := by decide +kernel
theorem dX4_output_25 : decode cX4_output 25 = .ok (.bipush (-2), 2) := by decide +kernel
theorem dX4_output_27 : decode cX4_output 27 = .ok (.ireturn, 1) := by decide +kernel
theorem dX4_output_28 : decode cX4_output 28 = .ok (.lload 4, 2) := by decide +kernel
theorem dX4_output_30 : decode cX4_output 30 = .ok (.lconst 0, 1) := by decide +kernel
theorem dX4_output_31 : decode cX4_output 31 = .ok (.lcmp, 1) := by decide +kernel
theorem dX4_output_32 : decode cX4_output 32 = .ok (.ifCond .lt 12, 3) := by decide +kernel
theorem dX4_output_35 : decode cX4_output 35 = .ok (.lload 4, 2) := by decide +kernel
theorem dX4_output_37 : decode cX4_output 37 = .ok (.ldc2_w 99, 3) := by decide +kernel
theorem dX4_output_40 : decode cX4_output 40 = .ok (.lcmp, 1) := by decide +kernel
theorem dX4_output_41 : decode cX4_output 41 = .ok (.ifCond .le 6, 3) := by decide +kernel
theorem dX4_output_44 : decode cX4_output 44 = .ok (.bipush (-2), 2) := by decide +kernel
theorem dX4_output_46 : decode cX4_output 46 = .ok (.ireturn, 1) := by decide +kernel
theorem dX4_output_47 : decode cX4_output 47 = .ok (.aload_n 0, 1) := by decide +kernel
theorem dX4_output_48 : decode cX4_output 48 = .ok (.getfield 17, 3) := by decide +kernel
theorem dX4_output_51 : decode cX4_output 51 = .ok (.iload_n 1, 1) := by decide +kernel
theorem dX4_output_52 : decode cX4_output 52 = .ok (.aaload, 1) := by decide +kernel
theorem dX4_output_53 : decode cX4_output 53 = .ok (.invokevirtual 101, 3) := by decide +kernel
theorem dX4_output_56 : decode cX4_output 56 = .ok (.aload_n 0, 1) := by decide +kernel
theorem dX4_output_57 : decode cX4_output 57 = .ok (.getfield 17, 3) := by decide +kernel
theorem dX4_output_60 : decode cX4_output 60 = .ok (.iload_n 1, 1) := by decide +kernel
theorem dX4_output_61 : decode cX4_output 61 = .ok (.aaload, 1) := by decide +kernel
theorem dX4_output_62 : decode cX4_output 62 = .ok (.getfield 104, 3) := by decide +kernel
theorem dX4_output_65 : decode cX4_output 65 = .ok (.aload_n 0, 1) := by decide +kernel
theorem dX4_output_66 : decode cX4_output 66 = .ok (.getfield 11, 3) := by decide +kernel
theorem dX4_output_69 : decode cX4_output 69 = .ok (.iload_n 2, 1) := by decide +kernel
theorem dX4_output_70 : decode cX4_output 70 = .ok (.aaload, 1) := by decide +kernel
theorem dX4_output_71 : decode cX4_output 71 = .ok (.iload_n 3, 1) := by decide +kernel
theorem dX4_output_72 : decode cX4_output 72 = .ok (.lload 4, 2) := by decide +kernel
theorem dX4_output_74 : decode cX4_output 74 = .ok (.invokevirtual 108, 3) := by decide +kernel
theorem dX4_output_77 : decode cX4_output 77 = .ok (.iload_n 3, 1) := by decide +kernel
theorem dX4_output_78 : decode cX4_output 78 = .ok (.ireturn, 1) := by decide +kernel
set_option maxRecDepth 20000 in
theorem ggX4_copy_X4_isHasher : GoodIn wsX4_copy wsX4_isHasher := goodIn_r _ [5] (by decide +kernel) (by decide +kernel)
set_option maxRecDepth 20000 in
theorem gX4_copy_X4_isHasher : GoodIn wsX4_copy (va_wsS RX4 68 yX4_isHasher wsX4_isHasher) := goodIn_app (goodIn_of _ (by decide +kernel)) ggX4_copy_X4_isHasher
set_option maxRecDepth 20000 in
theorem ggX4_copy_X1_becomeAs : GoodIn wsX4_copy wsX1_becomeAs := goodIn_r _ [10, 11, 12, 13, 14, 15, 16, 17, 18, 19, 20, 21, 22, 23, 24, 9, 25, 33, 34, 35, 36, 37, 38, 39, 40, 41, 42, 43, 44, 45] (by decide +kernel) (by decide +kernel)
set_option maxRecDepth 20000 in
theorem gX4_copy_X1_becomeAs : GoodIn wsX4_copy (wsV RX4 112 RX1 yX1_becomeAs wsX1_becomeAs) := goodIn_app (goodIn_of _ (by decide +kernel)) ggX4_copy_X1_becomeAs
theorem dX4_copy_0 : decode cX4_copy 0 = .ok (.iload_n 1, 1) := by decide +kernel
theorem dX4_copy_1 : decode cX4_copy 1 = .ok (.invokestatic 68, 3) := by decide +kernel
theorem dX4_copy_4 : decode cX4_copy 4 = .ok (.ifCond .eq 10, 3) := by decide +kernel
theorem dX4_copy_7 : decode cX4_copy 7 = .ok (.iload_n 2, 1) := by decide +kernel
theorem dX4_copy_8 : decode cX4_copy 8 = .ok (.invokestatic 68, 3) := by decide +kernel
theorem dX4_copy_11 : decode cX4_copy 11 = .ok (.ifCond .ne 6, 3) := by decide +kernel
theorem dX4_copy_14 : decode cX4_copy 14 = .ok (.bipush (-2), 2) := by decide +kernel
theorem dX4_copy_16 : decode cX4_copy 16 = .ok (.ireturn, 1) := by decide +kernel
theorem dX4_copy_17 : decode cX4_copy 17 = .ok (.aload_n 0, 1) := by decide +kernel
theorem dX4_copy_18 : decode cX4_copy 18 = .ok (.getfield 17, 3) := by decide +kernel
theorem dX4_copy_21 : decode cX4_copy 21 = .ok (.iload_n 2, 1) := by decide +kernel
theorem dX4_copy_22 : decode cX4_copy 22 = .ok (.aaload, 1) := by decide +kernel
theorem dX4_copy_23 : decode cX4_copy 23 = .ok (.aload_n 0, 1) := by decide +kernel
theorem dX4_copy_24 : decode cX4_copy 24 = .ok (.getfield 17, 3) := by decide +kernel
theorem dX4_copy_27 : decode cX4_copy 27 = .ok (.iload_n 1, 1) := by decide +kernel
theorem dX4_copy_28 : decode cX4_copy 28 = .ok (.aaload, 1) := by decide +kernel
theorem dX4_copy_29 : decode cX4_copy 29 = .ok (.invokevirtual 112, 3) := by decide +kernel
theorem dX4_copy_32 : decode cX4_copy 32 = .ok (.aload_n 0, 1) := by decide +kernel
theorem dX4_copy_33 : decode cX4_copy 33 = .ok (.getfield 17, 3) := by decide +kernel
theorem dX4_copy_36 : decode cX4_copy 36 = .ok (.iload_n 2, 1) := by decide +kernel
theorem dX4_copy_37 : decode cX4_copy 37 = .ok (.aaload, 1) := by decide +kernel
theorem dX4_copy_38 : decode cX4_copy 38 = .ok (.getfield 89, 3) := by decide +kernel
theorem dX4_copy_41 : decode cX4_copy 41 = .ok (.ireturn, 1) := by decide +kernel
set_option maxRecDepth 20000 in
theorem ggX4_told_X4_isHasher : GoodIn wsX4_told wsX4_isHasher := goodIn_r _ [5] (by decide +kernel) (by decide +kernel)
set_option maxRecDepth 20000 in
theorem gX4_told_X4_isHasher : GoodIn wsX4_told (va_wsS RX4 68 yX4_isHasher wsX4_isHasher) := goodIn_app (goodIn_of _ (by decide +kernel)) ggX4_told_X4_isHasher
set_option maxRecDepth 20000 in
theorem ggX4_told_X1_inChunk : GoodIn wsX4_told wsX1_inChunk := goodIn_r _ [10, 11, 12, 20, 21, 22, 23, 24, 25, 26, 27, 28, 29, 30, 31, 32] (by decide +kernel) (by decide +kernel)
set_option maxRecDepth 20000 in
theorem gX4_told_X1_inChunk : GoodIn wsX4_told (wsV RX4 125 RX1 yX1_inChunk wsX1_inChunk) := goodIn_app (goodIn_of _ (by decide +kernel)) ggX4_told_X1_inChunk
theorem dX4_told_0 : decode cX4_told 0 = .ok (.iload_n 1, 1) := by decide +kernel
theorem dX4_told_1 : decode cX4_told 1 = .ok (.invokestatic 68, 3) := by decide +kernel
theorem dX4_told_4 : decode cX4_told 4 = .ok (.ifCond .ne 6, 3) := by decide +kernel
theorem dX4_told_7 : decode cX4_told 7 = .ok (.bipush (-2), 2) := by decide +kernel
theorem dX4_told_9 : decode cX4_told 9 = .ok (.ireturn, 1) := by decide +kernel
theorem dX4_told_10 : decode cX4_told 10 = .ok (.iload_n 2, 1) := by decide +kernel
theorem dX4_told_11 : decode cX4_told 11 = .ok (.tableswitch 83 0 4 #[33, 43, 53, 63, 73], 33) := by decide +kernel
theorem dX4_told_44 : decode cX4_told 44 = .ok (.aload_n 0, 1) := by decide +kernel
theorem dX4_told_45 : decode cX4_told 45 = .ok (.getfield 17, 3) := by decide +kernel
theorem dX4_told_48 : decode cX4_told 48 = .ok (.iload_n 1, 1) := by decide +kernel
theorem dX4_told_49 : decode cX4_told 49 = .ok (.aaload, 1) := by decide +kernel
theorem dX4_told_50 : decode cX4_told 50 = .ok (.getfield 116, 3) := by decide +kernel
theorem dX4_told_53 : decode cX4_told 53 = .ok (.ireturn, 1) := by decide +kernel
theorem dX4_told_54 : decode cX4_told 54 = .ok (.aload_n 0, 1) := by decide +kernel
theorem dX4_told_55 : decode cX4_told 55 = .ok (.getfield 17, 3) := by decide +kernel
theorem dX4_told_58 : decode cX4_told 58 = .ok (.iload_n 1, 1) := by decide +kernel
theorem dX4_told_59 : decode cX4_told 59 = .ok (.aaload, 1) := by decide +kernel
theorem dX4_told_60 : decode cX4_told 60 = .ok (.getfield 89, 3) := by decide +kernel
theorem dX4_told_63 : decode cX4_told 63 = .ok (.ireturn, 1) := by decide +kernel
theorem dX4_told_64 : decode cX4_told 64 = .ok (.aload_n 0, 1) := by decide +kernel
theorem dX4_told_65 : decode cX4_told 65 = .ok (.getfield 17, 3) := by decide +kernel
theorem dX4_told_68 : decode cX4_told 68 = .ok (.iload_n 1, 1) := by decide +kernel
theorem dX4_told_69 : decode cX4_told 69 = .ok (.aaload, 1) := by decide +kernel
theorem dX4_told_70 : decode cX4_told 70 = .ok (.getfield 119, 3) := by decide +kernel
theorem dX4_told_73 : decode cX4_told 73 = .ok (.ireturn, 1) := by decide +kernel
theorem dX4_told_74 : decode cX4_told 74 = .ok (.aload_n 0, 1) := by decide +kernel
theorem dX4_told_75 : decode cX4_told 75 = .ok (.getfield 17, 3) := by decide +kernel
theorem dX4_told_78 : decode cX4_told 78 = .ok (.iload_n 1, 1) := by decide +kernel
theorem dX4_told_79 : decode cX4_told 79 = .ok (.aaload, 1) := by decide +kernel
theorem dX4_told_80 : decode cX4_told 80 = .ok (.getfield 122, 3) := by decide +kernel
theorem dX4_told_83 : decode cX4_told 83 = .ok (.ireturn, 1) := by decide +kernel
theorem dX4_told_84 : decode cX4_told 84 = .ok (.aload_n 0, 1) := by decide +kernel
theorem dX4_told_85 : decode cX4_told 85 = .ok (.getfield 17, 3) := by decide +kernel
theorem dX4_told_88 : decode cX4_told 88 = .ok (.iload_n 1, 1) := by decide +kernel
theorem dX4_told_89 : decode cX4_told 89 = .ok (.aaload, 1) := by decide +kernel
theorem dX4_told_90 : decode cX4_told 90 = .ok (.invokevirtual 125, 3) := by decide +kernel
theorem dX4_told_93 : decode cX4_told 93 = .ok (.ireturn, 1) := by decide +kernel
theorem dX4_told_94 : decode cX4_told 94 = .ok (.bipush (-2), 2) := by decide +kernel
theorem dX4_told_96 : decode cX4_told 96 = .ok (.ireturn, 1) := by decide +kernel
set_option maxRecDepth 20000 in
theorem ggX4_chain_X4_isHasher : GoodIn wsX4_chain wsX4_isHasher := goodIn_r _ [5] (by decide +kernel) (by decide +kernel)
set_option maxRecDepth 20000 in
theorem gX4_chain_X4_isHasher : GoodIn wsX4_chain (va_wsS RX4 68 yX4_isHasher wsX4_isHasher) := goodIn_app (goodIn_of _ (by decide +kernel)) ggX4_chain_X4_isHasher
set_option maxRecDepth 20000 in
theorem ggX4_chain_X1_stackWord : GoodIn wsX4_chain wsX1_stackWord := goodIn_r _ [10, 11, 12, 20, 21, 22, 23, 24, 25, 26, 27, 28, 29, 30, 31, 32] (by decide +kernel) (by decide +kernel)
set_option maxRecDepth 20000 in
theorem gX4_chain_X1_stackWord : GoodIn wsX4_chain (wsV RX4 129 RX1 yX1_stackWord wsX1_stackWord) := goodIn_app (goodIn_of _ (by decide +kernel)) ggX4_chain_X1_stackWord
theorem dX4_chain_0 : decode cX4_chain 0 = .ok (.iload_n 1, 1) := by decide +kernel
theorem dX4_chain_1 : decode cX4_chain 1 = .ok (.invokestatic 68, 3) := by decide +kernel
theorem dX4_chain_4 : decode cX4_chain 4 = .ok (.ifCond .eq 17, 3) := by decide +kernel
theorem dX4_chain_7 : decode cX4_chain 7 = .ok (.aload_n 0, 1) := by decide +kernel
theorem dX4_chain_8 : decode cX4_chain 8 = .ok (.getfield 17, 3) := by decide +kernel
theorem dX4_chain_11 : decode cX4_chain 11 = .ok (.iload_n 1, 1) := by decide +kernel
theorem dX4_chain_12 : decode cX4_chain 12 = .ok (.aaload, 1) := by decide +kernel
theorem dX4_chain_13 : decode cX4_chain 13 = .ok (.iload_n 2, 1) := by decide +kernel
theorem dX4_chain_14 : decode cX4_chain 14 = .ok (.iload_n 3, 1) := by decide +kernel
theorem dX4_chain_15 : decode cX4_chain 15 = .ok (.invokevirtual 129, 3) := by decide +kernel
theorem dX4_chain_18 : decode cX4_chain 18 = .ok (.goto 5, 3) := by decide +kernel
theorem dX4_chain_21 : decode cX4_chain 21 = .ok (.bipush (-2), 2) := by decide +kernel
theorem dX4_chain_23 : decode cX4_chain 23 = .ok (.ireturn, 1) := by decide +kernel
set_option maxRecDepth 20000 in
theorem ggX4_grow_X0_hasRoomFor : GoodIn wsX4_grow wsX0_hasRoomFor := goodIn_r _ [6, 7, 8, 20, 21] (by decide +kernel) (by decide +kernel)
set_option maxRecDepth 20000 in
theorem gX4_grow_X0_hasRoomFor : GoodIn wsX4_grow (wsV RX4 51 RX0 yX0_hasRoomFor wsX0_hasRoomFor) := goodIn_app (goodIn_of _ (by decide +kernel)) ggX4_grow_X0_hasRoomFor
set_option maxRecDepth 20000 in
theorem ggX4_grow_X0_append : GoodIn wsX4_grow wsX0_append := goodIn_r _ [12, 8, 7, 20, 21] (by decide +kernel) (by decide +kernel)
set_option maxRecDepth 20000 in
theorem gX4_grow_X0_append : GoodIn wsX4_grow (wsV RX4 54 RX0 yX0_append wsX0_append) := goodIn_app (goodIn_of _ (by decide +kernel)) ggX4_grow_X0_append
theorem dX4_grow_0 : decode cX4_grow 0 = .ok (.iload_n 1, 1) := by decide +kernel
theorem dX4_grow_1 : decode cX4_grow 1 = .ok (.iconst 1, 1) := by decide +kernel
theorem dX4_grow_2 : decode cX4_grow 2 = .ok (.if_icmp .lt 10, 3) := by decide +kernel
theorem dX4_grow_5 : decode cX4_grow 5 = .ok (.iload_n 1, 1) := by decide +kernel
theorem dX4_grow_6 : decode cX4_grow 6 = .ok (.sipush 5000, 3) := by decide +kernel
theorem dX4_grow_9 : decode cX4_grow 9 = .ok (.if_icmp .le 6, 3) := by decide +kernel
theorem dX4_grow_12 : decode cX4_grow 12 = .ok (.bipush (-2), 2) := by decide +kernel
theorem dX4_grow_14 : decode cX4_grow 14 = .ok (.ireturn, 1) := by decide +kernel
theorem dX4_grow_15 : decode cX4_grow 15 = .ok (.aload_n 0, 1) := by decide +kernel
theorem dX4_grow_16 : decode cX4_grow 16 = .ok (.getfield 24, 3) := by decide +kernel
theorem dX4_grow_19 : decode cX4_grow 19 = .ok (.iload_n 1, 1) := by decide +kernel
theorem dX4_grow_20 : decode cX4_grow 20 = .ok (.invokevirtual 51, 3) := by decide +kernel
theorem dX4_grow_23 : decode cX4_grow 23 = .ok (.ifCond .ne 6, 3) := by decide +kernel
theorem dX4_grow_26 : decode cX4_grow 26 = .ok (.bipush (-3), 2) := by decide +kernel
theorem dX4_grow_28 : decode cX4_grow 28 = .ok (.ireturn, 1) := by decide +kernel
theorem dX4_grow_29 : decode cX4_grow 29 = .ok (.iconst 0, 1) := by decide +kernel
theorem dX4_grow_30 : decode cX4_grow 30 = .ok (.istore 4, 2) := by decide +kernel
theorem dX4_grow_32 : decode cX4_grow 32 = .ok (.iload 4, 2) := by decide +kernel
theorem dX4_grow_34 : decode cX4_grow 34 = .ok (.iload_n 1, 1) := by decide +kernel
theorem dX4_grow_35 : decode cX4_grow 35 = .ok (.if_icmp .ge 22, 3) := by decide +kernel
theorem dX4_grow_38 : decode cX4_grow 38 = .ok (.aload_n 0, 1) := by decide +kernel
theorem dX4_grow_39 : decode cX4_grow 39 = .ok (.getfield 24, 3) := by decide +kernel
theorem dX4_grow_42 : decode cX4_grow 42 = .ok (.iload_n 2, 1) := by decide +kernel
theorem dX4_grow_43 : decode cX4_grow 43 = .ok (.iload 4, 2) := by decide +kernel
theorem dX4_grow_45 : decode cX4_grow 45 = .ok (.iload_n 3, 1) := by decide +kernel
theorem dX4_grow_46 : decode cX4_grow 46 = .ok (.imul, 1) := by decide +kernel
theorem dX4_grow_47 : decode cX4_grow 47 = .ok (.iadd, 1) := by decide +kernel
theorem dX4_grow_48 : decode cX4_grow 48 = .ok (.invokevirtual 54, 3) := by decide +kernel
theorem dX4_grow_51 : decode cX4_grow 51 = .ok (.iinc 4 1, 3) := by decide +kernel
theorem dX4_grow_54 : decode cX4_grow 54 = .ok (.goto (-22), 3) := by decide +kernel
theorem dX4_grow_57 : decode cX4_grow 57 = .ok (.aload_n 0, 1) := by decide +kernel
theorem dX4_grow_58 : decode cX4_grow 58 = .ok (.getfield 24, 3) := by decide +kernel
theorem dX4_grow_61 : decode cX4_grow 61 = .ok (.getfield 57, 3) := by decide +kernel
theorem dX4_grow_64 : decode cX4_grow 64 = .ok (.ireturn, 1) := by decide +kernel
set_option maxRecDepth 20000 in
theorem ggX4_spoil_X0_change : GoodIn wsX4_spoil wsX0_change := goodIn_r _ [6, 7, 8, 16, 17] (by decide +kernel) (by decide +kernel)
set_option maxRecDepth 20000 in
theorem gX4_spoil_X0_change : GoodIn wsX4_spoil (wsV RX4 133 RX0 yX0_change wsX0_change) := goodIn_app (goodIn_of _ (by decide +kernel)) ggX4_spoil_X0_change
theorem dX4_spoil_0 : decode cX4_spoil 0 = .ok (.aload_n 0, 1) := by decide +kernel
theorem dX4_spoil_1 : decode cX4_spoil 1 = .ok (.getfield 24, 3) := by decide +kernel
theorem dX4_spoil_4 : decode cX4_spoil 4 = .ok (.iload_n 1, 1) := by decide +kernel
theorem dX4_spoil_5 : decode cX4_spoil 5 = .ok (.iload_n 2, 1) := by decide +kernel
theorem dX4_spoil_6 : decode cX4_spoil 6 = .ok (.invokevirtual 133, 3) := by decide +kernel
theorem dX4_spoil_9 : decode cX4_spoil 9 = .ok (.ireturn, 1) := by decide +kernel
set_option maxRecDepth 20000 in
theorem ggX4_shorten_X0_keepFirst : GoodIn wsX4_shorten wsX0_keepFirst := goodIn_r _ [6, 7, 15, 16] (by decide +kernel) (by decide +kernel)
set_option maxRecDepth 20000 in
theorem gX4_shorten_X0_keepFirst : GoodIn wsX4_shorten (wsV RX4 61 RX0 yX0_keepFirst wsX0_keepFirst) := goodIn_app (goodIn_of _ (by decide +kernel)) ggX4_shorten_X0_keepFirst
theorem dX4_shorten_0 : decode cX4_shorten 0 = .ok (.aload_n 0, 1) := by decide +kernel
theorem dX4_shorten_1 : decode cX4_shorten 1 = .ok (.getfield 24, 3) := by decide +kernel
theorem dX4_shorten_4 : decode cX4_shorten 4 = .ok (.iload_n 1, 1) := by decide +kernel
theorem dX4_shorten_5 : decode cX4_shorten 5 = .ok (.invokevirtual 61, 3) := by decide +kernel
theorem dX4_shorten_8 : decode cX4_shorten 8 = .ok (.ireturn, 1) := by decide +kernel
set_option maxRecDepth 20000 in
theorem ggX4_root_X4_isRegister : GoodIn wsX4_root wsX4_isRegister := goodIn_r _ [7] (by decide +kernel) (by decide +kernel)
set_option maxRecDepth 20000 in
theorem gX4_root_X4_isRegister : GoodIn wsX4_root (va_wsS RX4 47 yX4_isRegister wsX4_isRegister) := goodIn_app (goodIn_of _ (by decide +kernel)) ggX4_root_X4_isRegister
set_option maxRecDepth 20000 in
theorem ggX4_root_X4_prepareTree : GoodIn wsX4_root wsX4_prepareTree := goodIn_r _ [11, 2, 12, 13, 14, 15, 16, 17, 18, 19, 20, 21, 22, 23, 24, 25, 26, 27, 28, 29, 30, 31, 32, 33, 34, 35, 36, 37, 38, 39, 40, 41, 42, 43, 44, 45, 46, 47, 48, 49, 50, 51, 52, 53, 54, 55, 56, 57, 58, 59, 60, 61, 62, 63, 64, 65, 66, 67, 68, 69, 70, 71, 72, 73, 74, 75, 76, 77, 78, 79, 80, 81, 82, 83, 84, 85, 86, 87, 88, 89, 90, 91, 92, 93, 94, 95, 96, 97, 98, 99, 100, 101, 102, 103, 104, 105, 106, 107, 108, 109, 110, 111, 112, 135, 136, 137, 138, 139, 140, 141, 144, 145, 146, 147, 148, 149, 150, 151, 152, 153, 154, 155, 156, 142, 143, 157, 158, 159, 160, 161, 162, 163, 164] (by decide +kernel) (by decide +kernel)
set_option maxRecDepth 20000 in
theorem gX4_root_X4_prepareTree : GoodIn wsX4_root (wsV RX4 136 RX4 yX4_prepareTree wsX4_prepareTree) := goodIn_app (goodIn_of _ (by decide +kernel)) ggX4_root_X4_prepareTree
set_option maxRecDepth 20000 in
theorem ggX4_root_X2_writeOutput : GoodIn wsX4_root wsX2_writeOutput := goodIn_r _ [116, 117, 72, 118, 119, 120, 47, 121, 49, 122, 123, 124, 68, 125, 74, 126, 76, 77, 78, 79, 80, 70, 81, 82, 83, 84, 85, 73, 71, 86, 87, 88, 89, 90, 91, 92, 93, 94, 95, 127, 128, 129, 130, 131, 132, 133, 134, 50, 157, 158, 159, 160, 161, 162, 163, 164, 142, 143] (by decide +kernel) (by decide +kernel)
set_option maxRecDepth 20000 in
theorem gX4_root_X2_writeOutput : GoodIn wsX4_root (wsV RX4 108 RX2 yX2_writeOutput wsX2_writeOutput) := goodIn_app (goodIn_of _ (by decide +kernel)) ggX4_root_X2_writeOutput
theorem dX4_root_0 : decode cX4_root 0 = .ok (.iload_n 1, 1) := by decide +kernel
theorem dX4_root_1 : decode cX4_root 1 = .ok (.invokestatic 47, 3) := by decide +kernel
theorem dX4_root_4 : decode cX4_root 4 = .ok (.ifCond .ne 6, 3) := by decide +kernel
theorem dX4_root_7 : decode cX4_root 7 = .ok (.bipush (-2), 2) := by decide +kernel
theorem dX4_root_9 : decode cX4_root 9 = .ok (.ireturn, 1) := by decide +kernel
theorem dX4_root_10 : decode cX4_root 10 = .ok (.aload_n 0, 1) := by decide +kernel
theorem dX4_root_11 : decode cX4_root 11 = .ok (.aload_n 0, 1) := by decide +kernel
theorem dX4_root_12 : decode cX4_root 12 = .ok (.getfield 24, 3) := by decide +kernel
theorem dX4_root_15 : decode cX4_root 15 = .ok (.iconst 0, 1) := by decide +kernel
theorem dX4_root_16 : decode cX4_root 16 = .ok (.aload_n 0, 1) := by decide +kernel
theorem dX4_root_17 : decode cX4_root 17 = .ok (.getfield 24, 3) := by decide +kernel
theorem dX4_root_20 : decode cX4_root 20 = .ok (.getfield 57, 3) := by decide +kernel
theorem dX4_root_23 : decode cX4_root 23 = .ok (.iconst 0, 1) := by decide +kernel
theorem dX4_root_24 : decode cX4_root 24 = .ok (.invokevirtual 136, 3) := by decide +kernel
theorem dX4_root_27 : decode cX4_root 27 = .ok (.aload_n 0, 1) := by decide +kernel
theorem dX4_root_28 : decode cX4_root 28 = .ok (.getfield 32, 3) := by decide +kernel
theorem dX4_root_31 : decode cX4_root 31 = .ok (.getfield 104, 3) := by decide +kernel
theorem dX4_root_34 : decode cX4_root 34 = .ok (.aload_n 0, 1) := by decide +kernel
theorem dX4_root_35 : decode cX4_root 35 = .ok (.getfield 11, 3) := by decide +kernel
theorem dX4_root_38 : decode cX4_root 38 = .ok (.iload_n 1, 1) := by decide +kernel
theorem dX4_root_39 : decode cX4_root 39 = .ok (.aaload, 1) := by decide +kernel
theorem dX4_root_40 : decode cX4_root 40 = .ok (.bipush 32, 2) := by decide +kernel
theorem dX4_root_42 : decode cX4_root 42 = .ok (.lconst 0, 1) := by decide +kernel
theorem dX4_root_43 : decode cX4_root 43 = .ok (.invokevirtual 108, 3) := by decide +kernel
theorem dX4_root_46 : decode cX4_root 46 = .ok (.aload_n 0, 1) := by decide +kernel
theorem dX4_root_47 : decode cX4_root 47 = .ok (.getfield 24, 3) := by decide +kernel
theorem dX4_root_50 : decode cX4_root 50 = .ok (.getfield 57, 3) := by decide +kernel
theorem dX4_root_53 : decode cX4_root 53 = .ok (.ireturn, 1) := by decide +kernel
set_option maxRecDepth 20000 in
theorem ggX4_prove_X4_hasChunk : GoodIn wsX4_prove wsX4_hasChunk := goodIn_r _ [13, 14, 15, 12, 16] (by decide +kernel) (by decide +kernel)
set_option maxRecDepth 20000 in
theorem gX4_prove_X4_hasChunk : GoodIn wsX4_prove (va_wsS RX4 140 yX4_hasChunk wsX4_hasChunk) := goodIn_app (goodIn_of _ (by decide +kernel)) ggX4_prove_X4_hasChunk
set_option maxRecDepth 20000 in
theorem ggX4_prove_X0_keepFirst : GoodIn wsX4_prove wsX0_keepFirst := goodIn_r _ [21, 22, 162, 163] (by decide +kernel) (by decide +kernel)
set_option maxRecDepth 20000 in
theorem gX4_prove_X0_keepFirst : GoodIn wsX4_prove (wsV RX4 61 RX0 yX0_keepFirst wsX0_keepFirst) := goodIn_app (goodIn_of _ (by decide +kernel)) ggX4_prove_X0_keepFirst
set_option maxRecDepth 20000 in
theorem ggX4_prove_X4_chunkLength : GoodIn wsX4_prove wsX4_chunkLength := goodIn_r _ [25, 4, 5, 6, 7] (by decide +kernel) (by decide +kernel)
set_option maxRecDepth 20000 in
theorem gX4_prove_X4_chunkLength : GoodIn wsX4_prove (va_wsS RX4 144 yX4_chunkLength wsX4_chunkLength) := goodIn_app (goodIn_of _ (by decide +kernel)) ggX4_prove_X4_chunkLength
set_option maxRecDepth 20000 in
theorem ggX4_prove_X0_appendFrom : GoodIn wsX4_prove wsX0_appendFrom := goodIn_r _ [29, 30, 31, 32, 20, 33, 22, 34, 35, 36, 37, 38, 162, 163] (by decide +kernel) (by decide +kernel)
set_option maxRecDepth 20000 in
theorem gX4_prove_X0_appendFrom : GoodIn wsX4_prove (wsV RX4 147 RX0 yX0_appendFrom wsX0_appendFrom) := goodIn_app (goodIn_of _ (by decide +kernel)) ggX4_prove_X0_appendFrom
set_option maxRecDepth 20000 in
theorem ggX4_prove_X4_chunksOf : GoodIn wsX4_prove wsX4_chunksOf := goodIn_r _ [16] (by decide +kernel) (by decide +kernel)
set_option maxRecDepth 20000 in
theorem gX4_prove_X4_chunksOf : GoodIn wsX4_prove (va_wsS RX4 150 yX4_chunksOf wsX4_chunksOf) := goodIn_app (goodIn_of _ (by decide +kernel)) ggX4_prove_X4_chunksOf
set_option maxRecDepth 20000 in
theorem ggX4_prove_X3_lead : GoodIn wsX4_prove wsX3_lead := goodIn_r _ [43, 44, 45, 46, 47, 48, 42, 49, 164, 165, 166] (by decide +kernel) (by decide +kernel)
set_option maxRecDepth 20000 in
theorem gX4_prove_X3_lead : GoodIn wsX4_prove (wsV RX4 153 RX3 yX3_lead wsX3_lead) := goodIn_app (goodIn_of _ (by decide +kernel)) ggX4_prove_X3_lead
set_option maxRecDepth 20000 in
theorem ggX4_prove_X4_prepareTree : GoodIn wsX4_prove wsX4_prepareTree := goodIn_r _ [53, 8, 54, 55, 56, 57, 58, 59, 60, 61, 62, 63, 64, 65, 66, 67, 68, 69, 70, 71, 72, 73, 74, 75, 76, 77, 78, 79, 80, 81, 82, 83, 84, 85, 86, 31, 32, 20, 33, 22, 34, 87, 88, 89, 90, 91, 92, 93, 94, 95, 96, 97, 98, 99, 100, 101, 102, 103, 104, 105, 106, 107, 108, 109, 110, 111, 112, 113, 114, 115, 116, 117, 118, 119, 120, 121, 122, 123, 124, 125, 126, 127, 128, 129, 130, 131, 132, 133, 134, 135, 136, 137, 138, 139, 140, 141, 142, 143, 144, 145, 146, 147, 148, 155, 156, 157, 158, 159, 160, 161, 167, 168, 169, 170, 171, 172, 173, 174, 175, 176, 177, 178, 179, 162, 163, 180, 181, 182, 183, 184, 185, 186, 187] (by decide +kernel) (by decide +kernel)
set_option maxRecDepth 20000 in
theorem gX4_prove_X4_prepareTree : GoodIn wsX4_prove (wsV RX4 136 RX4 yX4_prepareTree wsX4_prepareTree) := goodIn_app (goodIn_of _ (by decide +kernel)) ggX4_prove_X4_prepareTree
set_option maxRecDepth 20000 in
theorem ggX4_prove_X2_run : GoodIn wsX4_prove wsX2_run := goodIn_r _ [114, 115, 116, 106, 117, 118, 119, 104, 120, 121, 108, 109, 110, 107, 122, 123, 124, 125, 126, 127, 128, 129, 130, 131, 180, 181, 182, 183, 184, 185, 186, 187] (by decide +kernel) (by decide +kernel)
set_option maxRecDepth 20000 in
theorem gX4_prove_X2_run : GoodIn wsX4_prove (wsV RX4 171 RX2 yX2_run wsX2_run) := goodIn_app (goodIn_of _ (by decide +kernel)) ggX4_prove_X2_run
set_option maxRecDepth 20000 in
theorem ggX4_prove_X2_writeChain : GoodIn wsX4_prove wsX2_writeChain := goodIn_r _ [140, 116, 180, 181, 182, 183, 184, 185, 186, 187] (by decide +kernel) (by decide +kernel)
set_option maxRecDepth 20000 in
theorem gX4_prove_X2_writeChain : GoodIn wsX4_prove (wsV RX4 174 RX2 yX2_writeChain wsX2_writeChain) := goodIn_app (goodIn_of _ (by decide +kernel)) ggX4_prove_X2_writeChain
set_option maxRecDepth 20000 in
theorem ggX4_prove_X0_appendChain : GoodIn wsX4_prove wsX0_appendChain := goodIn_r _ [154, 35, 36, 37, 20, 38, 22, 34, 162, 163] (by decide +kernel) (by decide +kernel)
set_option maxRecDepth 20000 in
theorem gX4_prove_X0_appendChain : GoodIn wsX4_prove (wsV RX4 178 RX0 yX0_appendChain wsX0_appendChain) := goodIn_app (goodIn_of _ (by decide +kernel)) ggX4_prove_X0_appendChain
theorem dX4_prove_0 : decode cX4_prove 0 = .ok (.aload_n 0, 1) := by decide +kernel
theorem dX4_prove_1 : decode cX4_prove 1 = .ok (.getfield 24, 3) := by decide +kernel
theorem dX4_prove_4 : decode cX4_prove 4 = .ok (.getfield 57, 3) := by decide +kernel
theorem dX4_prove_7 : decode cX4_prove 7 = .ok (.iload_n 1, 1) := by decide +kernel
theorem dX4_prove_8 : decode cX4_prove 8 = .ok (.invokestatic 140, 3) := by decide +kernel
theorem dX4_prove_11 : decode cX4_prove 11 = .ok (.ifCond .ne 6, 3) := by decide +kernel
theorem dX4_prove_14 : decode cX4_prove 14 = .ok (.bipush (-2), 2) := by decide +kernel
theorem dX4_prove_16 : decode cX4_prove 16 = .ok (.ireturn, 1) := by decide +kernel
theorem dX4_prove_17 : decode cX4_prove 17 = .ok (.aload_n 0, 1) := by decide +kernel
theorem dX4_prove_18 : decode cX4_prove 18 = .ok (.getfield 28, 3) := by decide +kernel
theorem dX4_prove_21 : decode cX4_prove 21 = .ok (.iconst 0, 1) := by decide +kernel
theorem dX4_prove_22 : decode cX4_prove 22 = .ok (.invokevirtual 61, 3) := by decide +kernel
theorem dX4_prove_25 : decode cX4_prove 25 = .ok (.pop, 1) := by decide +kernel
theorem dX4_prove_26 : decode cX4_prove 26 = .ok (.aload_n 0, 1) := by decide +kernel
theorem dX4_prove_27 : decode cX4_prove 27 = .ok (.getfield 28, 3) := by decide +kernel
theorem dX4_prove_30 : decode cX4_prove 30 = .ok (.aload_n 0, 1) := by decide +kernel
theorem dX4_prove_31 : decode cX4_prove 31 = .ok (.getfield 24, 3) := by decide +kernel
theorem dX4_prove_34 : decode cX4_prove 34 = .ok (.iload_n 1, 1) := by decide +kernel
theorem dX4_prove_35 : decode cX4_prove 35 = .ok (.sipush 1024, 3) := by decide +kernel
theorem dX4_prove_38 : decode cX4_prove 38 = .ok (.imul, 1) := by decide +kernel
theorem dX4_prove_39 : decode cX4_prove 39 = .ok (.aload_n 0, 1) := by decide +kernel
theorem dX4_prove_40 : decode cX4_prove 40 = .ok (.getfield 24, 3) := by decide +kernel
theorem dX4_prove_43 : decode cX4_prove 43 = .ok (.getfield 57, 3) := by decide +kernel
theorem dX4_prove_46 : decode cX4_prove 46 = .ok (.iload_n 1, 1) := by decide +kernel
theorem dX4_prove_47 : decode cX4_prove 47 = .ok (.invokestatic 144, 3) := by decide +kernel
theorem dX4_prove_50 : decode cX4_prove 50 = .ok (.invokevirtual 147, 3) := by decide +kernel
theorem dX4_prove_53 : decode cX4_prove 53 = .ok (.aload_n 0, 1) := by decide +kernel
theorem dX4_prove_54 : decode cX4_prove 54 = .ok (.getfield 39, 3) := by decide +kernel
theorem dX4_prove_57 : decode cX4_prove 57 = .ok (.aload_n 0, 1) := by decide +kernel
theorem dX4_prove_58 : decode cX4_prove 58 = .ok (.getfield 24, 3) := by decide +kernel
theorem dX4_prove_61 : decode cX4_prove 61 = .ok (.getfield 57, 3) := by decide +kernel
theorem dX4_prove_64 : decode cX4_prove 64 = .ok (.invokestatic 150, 3) := by decide +kernel
theorem dX4_prove_67 : decode cX4_prove 67 = .ok (.iload_n 1, 1) := by decide +kernel
theorem dX4_prove_68 : decode cX4_prove 68 = .ok (.invokevirtual 153, 3) := by decide +kernel
theorem dX4_prove_71 : decode cX4_prove 71 = .ok (.iconst 0, 1) := by decide +kernel
theorem dX4_prove_72 : decode cX4_prove 72 = .ok (.istore_n 2, 1) := by decide +kernel
theorem dX4_prove_73 : decode cX4_prove 73 = .ok (.iload_n 2, 1) := by decide +kernel
theorem dX4_prove_74 : decode cX4_prove 74 = .ok (.aload_n 0, 1) := by decide +kernel
theorem dX4_prove_75 : decode cX4_prove 75 = .ok (.getfield 39, 3) := by decide +kernel
theorem dX4_prove_78 : decode cX4_prove 78 = .ok (.getfield 157, 3) := by decide +kernel
theorem dX4_prove_81 : decode cX4_prove 81 = .ok (.if_icmp .ge 102, 3) := by decide +kernel
theorem dX4_prove_84 : decode cX4_prove 84 = .ok (.aload_n 0, 1) := by decide +kernel
theorem dX4_prove_85 : decode cX4_prove 85 = .ok (.getfield 39, 3) := by decide +kernel
theorem dX4_prove_88 : decode cX4_prove 88 = .ok (.getfield 160, 3) := by decide +kernel
theorem dX4_prove_91 : decode cX4_prove 91 = .ok (.iload_n 2, 1) := by decide +kernel
theorem dX4_prove_92 : decode cX4_prove 92 = .ok (.iaload, 1) := by decide +kernel
theorem dX4_prove_93 : decode cX4_prove 93 = .ok (.istore_n 3, 1) := by decide +kernel
theorem dX4_prove_94 : decode cX4_prove 94 = .ok (.aload_n 0, 1) := by decide +kernel
theorem dX4_prove_95 : decode cX4_prove 95 = .ok (.getfield 39, 3) := by decide +kernel
theorem dX4_prove_98 : decode cX4_prove 98 = .ok (.getfield 163, 3) := by decide +kernel
theorem dX4_prove_101 : decode cX4_prove 101 = .ok (.iload_n 2, 1) := by decide +kernel
theorem dX4_prove_102 : decode cX4_prove 102 = .ok (.iaload, 1) := by decide +kernel
theorem dX4_prove_103 : decode cX4_prove 103 = .ok (.sipush 1024, 3) := by decide +kernel
theorem dX4_prove_106 : decode cX4_prove 106 = .ok (.imul, 1) := by decide +kernel
theorem dX4_prove_107 : decode cX4_prove 107 = .ok (.aload_n 0, 1) := by decide +kernel
theorem dX4_prove_108 : decode cX4_prove 108 = .ok (.getfield 24, 3) := by decide +kernel
theorem dX4_prove_111 : decode cX4_prove 111 = .ok (.getfield 57, 3) := by decide +kernel
theorem dX4_prove_114 : decode cX4_prove 114 = .ok (.iload_n 3, 1) := by decide +kernel
theorem dX4_prove_115 : decode cX4_prove 115 = .ok (.sipush 1024, 3) := by decide +kernel
theorem dX4_prove_118 : decode cX4_prove 118 = .ok (.imul, 1) := by decide +kernel
theorem dX4_prove_119 : decode cX4_prove 119 = .ok (.isub, 1) := by decide +kernel
theorem dX4_prove_120 : decode cX4_prove 120 = .ok (.invokestatic 166, 3) := by decide +kernel
theorem dX4_prove_123 : decode cX4_prove 123 = .ok (.istore 4, 2) := by decide +kernel
theorem dX4_prove_125 : decode cX4_prove 125 = .ok (.aload_n 0, 1) := by decide +kernel
theorem dX4_prove_126 : decode cX4_prove 126 = .ok (.aload_n 0, 1) := by decide +kernel
theorem dX4_prove_127 : decode cX4_prove 127 = .ok (.getfield 24, 3) := by decide +kernel
theorem dX4_prove_130 : decode cX4_prove 130 = .ok (.iload_n 3, 1) := by decide +kernel
theorem dX4_prove_131 : decode cX4_prove 131 = .ok (.sipush 1024, 3) := by decide +kernel
theorem dX4_prove_134 : decode cX4_prove 134 = .ok (.imul, 1) := by decide +kernel
theorem dX4_prove_135 : decode cX4_prove 135 = .ok (.iload 4, 2) := by decide +kernel
theorem dX4_prove_137 : decode cX4_prove 137 = .ok (.iload_n 3, 1) := by decide +kernel
theorem dX4_prove_138 : decode cX4_prove 138 = .ok (.invokevirtual 136, 3) := by decide +kernel
theorem dX4_prove_141 : decode cX4_prove 141 = .ok (.aload_n 0, 1) := by decide +kernel
theorem dX4_prove_142 : decode cX4_prove 142 = .ok (.getfield 32, 3) := by decide +kernel
theorem dX4_prove_145 : decode cX4_prove 145 = .ok (.getfield 104, 3) := by decide +kernel
theorem dX4_prove_148 : decode cX4_prove 148 = .ok (.invokevirtual 171, 3) := by decide +kernel
theorem dX4_prove_151 : decode cX4_prove 151 = .ok (.aload_n 0, 1) := by decide +kernel
theorem dX4_prove_152 : decode cX4_prove 152 = .ok (.getfield 32, 3) := by decide +kernel
theorem dX4_prove_155 : decode cX4_prove 155 = .ok (.getfield 104, 3) := by decide +kernel
theorem dX4_prove_158 : decode cX4_prove 158 = .ok (.aload_n 0, 1) := by decide +kernel
theorem dX4_prove_159 : decode cX4_prove 159 = .ok (.getfield 43, 3) := by decide +kernel
theorem dX4_prove_162 : decode cX4_prove 162 = .ok (.iconst 0, 1) := by decide +kernel
theorem dX4_prove_163 : decode cX4_prove 163 = .ok (.invokevirtual 174, 3) := by decide +kernel
theorem dX4_prove_166 : decode cX4_prove 166 = .ok (.aload_n 0, 1) := by decide +kernel
theorem dX4_prove_167 : decode cX4_prove 167 = .ok (.getfield 28, 3) := by decide +kernel
theorem dX4_prove_170 : decode cX4_prove 170 = .ok (.aload_n 0, 1) := by decide +kernel
theorem dX4_prove_171 : decode cX4_prove 171 = .ok (.getfield 43, 3) := by decide +kernel
theorem dX4_prove_174 : decode cX4_prove 174 = .ok (.invokevirtual 178, 3) := by decide +kernel
theorem dX4_prove_177 : decode cX4_prove 177 = .ok (.iinc 2 1, 3) := by decide +kernel
theorem dX4_prove_180 : decode cX4_prove 180 = .ok (.goto (-107), 3) := by decide +kernel
theorem dX4_prove_183 : decode cX4_prove 183 = .ok (.aload_n 0, 1) := by decide +kernel
theorem dX4_prove_184 : decode cX4_prove 184 = .ok (.getfield 28, 3) := by decide +kernel
theorem dX4_prove_187 : decode cX4_prove 187 = .ok (.getfield 57, 3) := by decide +kernel
theorem dX4_prove_190 : decode cX4_prove 190 = .ok (.ireturn, 1) := by decide +kernel
set_option maxRecDepth 20000 in
theorem ggX4_proof_X0_byteAt : GoodIn wsX4_proof wsX0_byteAt := goodIn_r _ [6, 7, 8, 16, 17] (by decide +kernel) (by decide +kernel)
set_option maxRecDepth 20000 in
theorem gX4_proof_X0_byteAt : GoodIn wsX4_proof (wsV RX4 65 RX0 yX0_byteAt wsX0_byteAt) := goodIn_app (goodIn_of _ (by decide +kernel)) ggX4_proof_X0_byteAt
theorem dX4_proof_0 : decode cX4_proof 0 = .ok (.aload_n 0, 1) := by decide +kernel
theorem dX4_proof_1 : decode cX4_proof 1 = .ok (.getfield 28, 3) := by decide +kernel
theorem dX4_proof_4 : decode cX4_proof 4 = .ok (.iload_n 1, 1) := by decide +kernel
theorem dX4_proof_5 : decode cX4_proof 5 = .ok (.invokevirtual 65, 3) := by decide +kernel
theorem dX4_proof_8 : decode cX4_proof 8 = .ok (.ireturn, 1) := by decide +kernel
set_option maxRecDepth 20000 in
theorem ggX4_forge_X0_change : GoodIn wsX4_forge wsX0_change := goodIn_r _ [6, 7, 8, 16, 17] (by decide +kernel) (by decide +kernel)
set_option maxRecDepth 20000 in
theorem gX4_forge_X0_change : GoodIn wsX4_forge (wsV RX4 133 RX0 yX0_change wsX0_change) := goodIn_app (goodIn_of _ (by decide +kernel)) ggX4_forge_X0_change
theorem dX4_forge_0 : decode cX4_forge 0 = .ok (.aload_n 0, 1) := by decide +kernel
theorem dX4_forge_1 : decode cX4_forge 1 = .ok (.getfield 28, 3) := by decide +kernel
theorem dX4_forge_4 : decode cX4_forge 4 = .ok (.iload_n 1, 1) := by decide +kernel
theorem dX4_forge_5 : decode cX4_forge 5 = .ok (.iload_n 2, 1) := by decide +kernel
theorem dX4_forge_6 : decode cX4_forge 6 = .ok (.invokevirtual 133, 3) := by decide +kernel
theorem dX4_forge_9 : decode cX4_forge 9 = .ok (.ireturn, 1) := by decide +kernel
set_option maxRecDepth 20000 in
theorem ggX4_cut_X0_keepFirst : GoodIn wsX4_cut wsX0_keepFirst := goodIn_r _ [6, 7, 15, 16] (by decide +kernel) (by decide +kernel)
set_option maxRecDepth 20000 in
theorem gX4_cut_X0_keepFirst : GoodIn wsX4_cut (wsV RX4 61 RX0 yX0_keepFirst wsX0_keepFirst) := goodIn_app (goodIn_of _ (by decide +kernel)) ggX4_cut_X0_keepFirst
theorem dX4_cut_0 : decode cX4_cut 0 = .ok (.aload_n 0, 1) := by decide +kernel
theorem dX4_cut_1 : decode cX4_cut 1 = .ok (.getfield 28, 3) := by decide +kernel
theorem dX4_cut_4 : decode cX4_cut 4 = .ok (.iload_n 1, 1) := by decide +kernel
theorem dX4_cut_5 : decode cX4_cut 5 = .ok (.invokevirtual 61, 3) := by decide +kernel
theorem dX4_cut_8 : decode cX4_cut 8 = .ok (.ireturn, 1) := by decide +kernel
set_option maxRecDepth 20000 in
theorem ggX4_check_X4_isRegister : GoodIn wsX4_check wsX4_isRegister := goodIn_r _ [9] (by decide +kernel) (by decide +kernel)
set_option maxRecDepth 20000 in
theorem gX4_check_X4_isRegister : GoodIn wsX4_check (va_wsS RX4 47 yX4_isRegister wsX4_isRegister) := goodIn_app (goodIn_of _ (by decide +kernel)) ggX4_check_X4_isRegister
set_option maxRecDepth 20000 in
theorem ggX4_check_X4_hasChunk : GoodIn wsX4_check wsX4_hasChunk := goodIn_r _ [12, 13, 14, 8, 15] (by decide +kernel) (by decide +kernel)
set_option maxRecDepth 20000 in
theorem gX4_check_X4_hasChunk : GoodIn wsX4_check (va_wsS RX4 140 yX4_hasChunk wsX4_hasChunk) := goodIn_app (goodIn_of _ (by decide +kernel)) ggX4_check_X4_hasChunk
set_option maxRecDepth 20000 in
theorem ggX4_check_X4_chunksOf : GoodIn wsX4_check wsX4_chunksOf := goodIn_r _ [15] (by decide +kernel) (by decide +kernel)
set_option maxRecDepth 20000 in
theorem gX4_check_X4_chunksOf : GoodIn wsX4_check (va_wsS RX4 150 yX4_chunksOf wsX4_chunksOf) := goodIn_app (goodIn_of _ (by decide +kernel)) ggX4_check_X4_chunksOf
set_option maxRecDepth 20000 in
theorem ggX4_check_X3_lead : GoodIn wsX4_check wsX3_lead := goodIn_r _ [20, 21, 22, 23, 24, 25, 19, 26, 182, 183, 184] (by decide +kernel) (by decide +kernel)
set_option maxRecDepth 20000 in
theorem gX4_check_X3_lead : GoodIn wsX4_check (wsV RX4 153 RX3 yX3_lead wsX3_lead) := goodIn_app (goodIn_of _ (by decide +kernel)) ggX4_check_X3_lead
set_option maxRecDepth 20000 in
theorem ggX4_check_X4_chunkLength : GoodIn wsX4_check wsX4_chunkLength := goodIn_r _ [29, 30, 31, 32, 33] (by decide +kernel) (by decide +kernel)
set_option maxRecDepth 20000 in
theorem gX4_check_X4_chunkLength : GoodIn wsX4_check (va_wsS RX4 144 yX4_chunkLength wsX4_chunkLength) := goodIn_app (goodIn_of _ (by decide +kernel)) ggX4_check_X4_chunkLength
set_option maxRecDepth 20000 in
theorem ggX4_check_X4_prepareTree : GoodIn wsX4_check wsX4_prepareTree := goodIn_r _ [37, 5, 38, 39, 40, 41, 42, 43, 44, 45, 46, 47, 48, 49, 50, 51, 52, 53, 54, 55, 56, 57, 58, 59, 60, 61, 62, 63, 64, 65, 66, 67, 68, 69, 70, 71, 72, 73, 74, 75, 76, 77, 78, 79, 80, 81, 82, 83, 84, 85, 86, 87, 88, 89, 90, 91, 92, 93, 94, 95, 96, 97, 98, 99, 100, 101, 102, 103, 104, 105, 106, 107, 108, 109, 110, 111, 112, 113, 114, 115, 116, 117, 118, 119, 120, 121, 122, 123, 124, 125, 126, 127, 128, 129, 130, 131, 132, 133, 134, 135, 136, 137, 138, 173, 174, 175, 176, 177, 178, 179, 185, 186, 187, 188, 189, 190, 191, 192, 193, 194, 195, 196, 197, 180, 181, 198, 199, 200, 201, 202, 203, 204, 205] (by decide +kernel) (by decide +kernel)
set_option maxRecDepth 20000 in
theorem gX4_check_X4_prepareTree : GoodIn wsX4_check (wsV RX4 136 RX4 yX4_prepareTree wsX4_prepareTree) := goodIn_app (goodIn_of _ (by decide +kernel)) ggX4_check_X4_prepareTree
set_option maxRecDepth 20000 in
theorem ggX4_check_X4_climb : GoodIn wsX4_check wsX4_climb := goodIn_r _ [142, 3, 4, 143, 5, 38, 144, 145, 146, 73, 147, 148, 149, 150, 151, 152, 71, 72, 74, 75, 76, 153, 102, 103, 94, 104, 105, 106, 96, 107, 108, 109, 110, 111, 98, 99, 100, 97, 112, 113, 114, 115, 116, 117, 118, 119, 120, 121, 154, 123, 124, 125, 126, 92, 93, 95, 155, 156, 157, 158, 173, 174, 175, 176, 177, 178, 179, 182, 183, 184, 185, 186, 187, 188, 189, 190, 191, 192, 193, 194, 195, 196, 197, 180, 181, 198, 199, 200, 201, 202, 203, 204, 205] (by decide +kernel) (by decide +kernel)
set_option maxRecDepth 20000 in
theorem gX4_check_X4_climb : GoodIn wsX4_check (wsV RX4 183 RX4 yX4_climb wsX4_climb) := goodIn_app (goodIn_of _ (by decide +kernel)) ggX4_check_X4_climb
set_option maxRecDepth 20000 in
theorem ggX4_check_X2_rootBeginsWith : GoodIn wsX4_check wsX2_rootBeginsWith := goodIn_r _ [162, 163, 164, 165, 94, 166, 100, 167, 102, 103, 104, 105, 106, 96, 107, 108, 109, 110, 111, 98, 99, 97, 112, 113, 114, 115, 116, 117, 118, 119, 120, 121, 168, 169, 170, 171, 172, 71, 72, 73, 74, 75, 76, 198, 199, 200, 201, 202, 203, 204, 205, 180, 181] (by decide +kernel) (by decide +kernel)
set_option maxRecDepth 20000 in
theorem gX4_check_X2_rootBeginsWith : GoodIn wsX4_check (wsV RX4 186 RX2 yX2_rootBeginsWith wsX2_rootBeginsWith) := goodIn_app (goodIn_of _ (by decide +kernel)) ggX4_check_X2_rootBeginsWith
theorem dX4_check_0 : decode cX4_check 0 = .ok (.iload_n 1, 1) := by decide +kernel
theorem dX4_check_1 : decode cX4_check 1 = .ok (.invokestatic 47, 3) := by decide +kernel
theorem dX4_check_4 : decode cX4_check 4 = .ok (.ifCond .eq 17, 3) := by decide +kernel
theorem dX4_check_7 : decode cX4_check 7 = .ok (.aload_n 0, 1) := by decide +kernel
theorem dX4_check_8 : decode cX4_check 8 = .ok (.getfield 11, 3) := by decide +kernel
theorem dX4_check_11 : decode cX4_check 11 = .ok (.iload_n 1, 1) := by decide +kernel
theorem dX4_check_12 : decode cX4_check 12 = .ok (.aaload, 1) := by decide +kernel
theorem dX4_check_13 : decode cX4_check 13 = .ok (.getfield 57, 3) := by decide +kernel
theorem dX4_check_16 : decode cX4_check 16 = .ok (.bipush 32, 2) := by decide +kernel
theorem dX4_check_18 : decode cX4_check 18 = .ok (.if_icmp .eq 6, 3) := by decide +kernel
theorem dX4_check_21 : decode cX4_check 21 = .ok (.bipush (-2), 2) := by decide +kernel
theorem dX4_check_23 : decode cX4_check 23 = .ok (.ireturn, 1) := by decide +kernel
theorem dX4_check_24 : decode cX4_check 24 = .ok (.iload_n 2, 1) := by decide +kernel
theorem dX4_check_25 : decode cX4_check 25 = .ok (.ifCond .lt 17, 3) := by decide +kernel
theorem dX4_check_28 : decode cX4_check 28 = .ok (.iload_n 2, 1) := by decide +kernel
theorem dX4_check_29 : decode cX4_check 29 = .ok (.ldc 182, 2) := by decide +kernel
theorem dX4_check_31 : decode cX4_check 31 = .ok (.if_icmp .gt 11, 3) := by decide +kernel
theorem dX4_check_34 : decode cX4_check 34 = .ok (.iload_n 2, 1) := by decide +kernel
theorem dX4_check_35 : decode cX4_check 35 = .ok (.iload_n 3, 1) := by decide +kernel
theorem dX4_check_36 : decode cX4_check 36 = .ok (.invokestatic 140, 3) := by decide +kernel
theorem dX4_check_39 : decode cX4_check 39 = .ok (.ifCond .ne 6, 3) := by decide +kernel
theorem dX4_check_42 : decode cX4_check 42 = .ok (.bipush (-2), 2) := by decide +kernel
theorem dX4_check_44 : decode cX4_check 44 = .ok (.ireturn, 1) := by decide +kernel
theorem dX4_check_45 : decode cX4_check 45 = .ok (.aload_n 0, 1) := by decide +kernel
theorem dX4_check_46 : decode cX4_check 46 = .ok (.getfield 39, 3) := by decide +kernel
theorem dX4_check_49 : decode cX4_check 49 = .ok (.iload_n 2, 1) := by decide +kernel
theorem dX4_check_50 : decode cX4_check 50 = .ok (.invokestatic 150, 3) := by decide +kernel
theorem dX4_check_53 : decode cX4_check 53 = .ok (.iload_n 3, 1) := by decide +kernel
theorem dX4_check_54 : decode cX4_check 54 = .ok (.invokevirtual 153, 3) := by decide +kernel
theorem dX4_check_57 : decode cX4_check 57 = .ok (.iload_n 2, 1) := by decide +kernel
theorem dX4_check_58 : decode cX4_check 58 = .ok (.iload_n 3, 1) := by decide +kernel
theorem dX4_check_59 : decode cX4_check 59 = .ok (.invokestatic 144, 3) := by decide +kernel
theorem dX4_check_62 : decode cX4_check 62 = .ok (.istore 4, 2) := by decide +kernel
theorem dX4_check_64 : decode cX4_check 64 = .ok (.aload_n 0, 1) := by decide +kernel
theorem dX4_check_65 : decode cX4_check 65 = .ok (.getfield 28, 3) := by decide +kernel
theorem dX4_check_68 : decode cX4_check 68 = .ok (.getfield 57, 3) := by decide +kernel
theorem dX4_check_71 : decode cX4_check 71 = .ok (.iload 4, 2) := by decide +kernel
theorem dX4_check_73 : decode cX4_check 73 = .ok (.aload_n 0, 1) := by decide +kernel
theorem dX4_check_74 : decode cX4_check 74 = .ok (.getfield 39, 3) := by decide +kernel
theorem dX4_check_77 : decode cX4_check 77 = .ok (.getfield 157, 3) := by decide +kernel
theorem dX4_check_80 : decode cX4_check 80 = .ok (.bipush 32, 2) := by decide +kernel
theorem dX4_check_82 : decode cX4_check 82 = .ok (.imul, 1) := by decide +kernel
theorem dX4_check_83 : decode cX4_check 83 = .ok (.iadd, 1) := by decide +kernel
theorem dX4_check_84 : decode cX4_check 84 = .ok (.if_icmp .eq 5, 3) := by decide +kernel
theorem dX4_check_87 : decode cX4_check 87 = .ok (.iconst 0, 1) := by decide +kernel
theorem dX4_check_88 : decode cX4_check 88 = .ok (.ireturn, 1) := by decide +kernel
theorem dX4_check_89 : decode cX4_check 89 = .ok (.aload_n 0, 1) := by decide +kernel
theorem dX4_check_90 : decode cX4_check 90 = .ok (.aload_n 0, 1) := by decide +kernel
theorem dX4_check_91 : decode cX4_check 91 = .ok (.getfield 28, 3) := by decide +kernel
theorem dX4_check_94 : decode cX4_check 94 = .ok (.iconst 0, 1) := by decide +kernel
theorem dX4_check_95 : decode cX4_check 95 = .ok (.iload 4, 2) := by decide +kernel
theorem dX4_check_97 : decode cX4_check 97 = .ok (.iload_n 3, 1) := by decide +kernel
theorem dX4_check_98 : decode cX4_check 98 = .ok (.invokevirtual 136, 3) := by decide +kernel
theorem dX4_check_101 : decode cX4_check 101 = .ok (.aload_n 0, 1) := by decide +kernel
theorem dX4_check_102 : decode cX4_check 102 = .ok (.iload 4, 2) := by decide +kernel
theorem dX4_check_104 : decode cX4_check 104 = .ok (.iload_n 3, 1) := by decide +kernel
theorem dX4_check_105 : decode cX4_check 105 = .ok (.invokevirtual 183, 3) := by decide +kernel
theorem dX4_check_108 : decode cX4_check 108 = .ok (.aload_n 0, 1) := by decide +kernel
theorem dX4_check_109 : decode cX4_check 109 = .ok (.getfield 32, 3) := by decide +kernel
theorem dX4_check_112 : decode cX4_check 112 = .ok (.getfield 104, 3) := by decide +kernel
theorem dX4_check_115 : decode cX4_check 115 = .ok (.aload_n 0, 1) := by decide +kernel
theorem dX4_check_116 : decode cX4_check 116 = .ok (.getfield 11, 3) := by decide +kernel
theorem dX4_check_119 : decode cX4_check 119 = .ok (.iload_n 1, 1) := by decide +kernel
theorem dX4_check_120 : decode cX4_check 120 = .ok (.aaload, 1) := by decide +kernel
theorem dX4_check_121 : decode cX4_check 121 = .ok (.invokevirtual 186, 3) := by decide +kernel
theorem dX4_check_124 : decode cX4_check 124 = .ok (.ifCond .eq 7, 3) := by decide +kernel
theorem dX4_check_127 : decode cX4_check 127 = .ok (.iconst 1, 1) := by decide +kernel
theorem dX4_check_128 : decode cX4_check 128 = .ok (.goto 4, 3) := by decide +kernel
theorem dX4_check_131 : decode cX4_check 131 = .ok (.iconst 0, 1) := by decide +kernel
theorem dX4_check_132 : decode cX4_check 132 = .ok (.ireturn, 1) := by decide +kernel
theorem dX4_isRegister_0 : decode cX4_isRegister 0 = .ok (.iload_n 0, 1) := by decide +kernel
theorem dX4_isRegister_1 : decode cX4_isRegister 1 = .ok (.ifCond .lt 13, 3) := by decide +kernel
theorem dX4_isRegister_4 : decode cX4_isRegister 4 = .ok (.iload_n 0, 1) := by decide +kernel
theorem dX4_isRegister_5 : decode cX4_isRegister 5 = .ok (.bipush 8, 2) := by decide +kernel
theorem dX4_isRegister_7 : decode cX4_isRegister 7 = .ok (.if_icmp .ge 7, 3) := by decide +kernel
theorem dX4_isRegister_10 : decode cX4_isRegister 10 = .ok (.iconst 1, 1) := by decide +kernel
theorem dX4_isRegister_11 : decode cX4_isRegister 11 = .ok (.goto 4, 3) := by decide +kernel
theorem dX4_isRegister_14 : decode cX4_isRegister 14 = .ok (.iconst 0, 1) := by decide +kernel
theorem dX4_isRegister_15 : decode cX4_isRegister 15 = .ok (.ireturn, 1) := by decide +kernel
theorem dX4_isHasher_0 : decode cX4_isHasher 0 = .ok (.iload_n 0, 1) := by decide +kernel
theorem dX4_isHasher_1 : decode cX4_isHasher 1 = .ok (.ifCond .lt 12, 3) := by decide +kernel
theorem dX4_isHasher_4 : decode cX4_isHasher 4 = .ok (.iload_n 0, 1) := by decide +kernel
theorem dX4_isHasher_5 : decode cX4_isHasher 5 = .ok (.iconst 4, 1) := by decide +kernel
theorem dX4_isHasher_6 : decode cX4_isHasher 6 = .ok (.if_icmp .ge 7, 3) := by decide +kernel
theorem dX4_isHasher_9 : decode cX4_isHasher 9 = .ok (.iconst 1, 1) := by decide +kernel
theorem dX4_isHasher_10 : decode cX4_isHasher 10 = .ok (.goto 4, 3) := by decide +kernel
theorem dX4_isHasher_13 : decode cX4_isHasher 13 = .ok (.iconst 0, 1) := by decide +kernel
theorem dX4_isHasher_14 : decode cX4_isHasher 14 = .ok (.ireturn, 1) := by decide +kernel
theorem dX4_chunksOf_0 : decode cX4_chunksOf 0 = .ok (.iload_n 0, 1) := by decide +kernel
theorem dX4_chunksOf_1 : decode cX4_chunksOf 1 = .ok (.ifCond .ne 7, 3) := by decide +kernel
theorem dX4_chunksOf_4 : decode cX4_chunksOf 4 = .ok (.iconst 1, 1) := by decide +kernel
theorem dX4_chunksOf_5 : decode cX4_chunksOf 5 = .ok (.goto 12, 3) := by decide +kernel
theorem dX4_chunksOf_8 : decode cX4_chunksOf 8 = .ok (.iload_n 0, 1) := by decide +kernel
theorem dX4_chunksOf_9 : decode cX4_chunksOf 9 = .ok (.iconst 1, 1) := by decide +kernel
theorem dX4_chunksOf_10 : decode cX4_chunksOf 10 = .ok (.isub, 1) := by decide +kernel
theorem dX4_chunksOf_11 : decode cX4_chunksOf 11 = .ok (.sipush 1024, 3) := by decide +kernel
theorem dX4_chunksOf_14 : decode cX4_chunksOf 14 = .ok (.idiv, 1) := by decide +kernel
theorem dX4_chunksOf_15 : decode cX4_chunksOf 15 = .ok (.iconst 1, 1) := by decide +kernel
theorem dX4_chunksOf_16 : decode cX4_chunksOf 16 = .ok (.iadd, 1) := by decide +kernel
theorem dX4_chunksOf_17 : decode cX4_chunksOf 17 = .ok (.ireturn, 1) := by decide +kernel
set_option maxRecDepth 20000 in
theorem ggX4_hasChunk_X4_chunksOf : GoodIn wsX4_hasChunk wsX4_chunksOf := goodIn_r _ [4] (by decide +kernel) (by decide +kernel)
set_option maxRecDepth 20000 in
theorem gX4_hasChunk_X4_chunksOf : GoodIn wsX4_hasChunk (va_wsS RX4 150 yX4_chunksOf wsX4_chunksOf) := goodIn_app (goodIn_of _ (by decide +kernel)) ggX4_hasChunk_X4_chunksOf
theorem dX4_hasChunk_0 : decode cX4_hasChunk 0 = .ok (.iload_n 1, 1) := by decide +kernel
theorem dX4_hasChunk_1 : decode cX4_hasChunk 1 = .ok (.ifCond .lt 15, 3) := by decide +kernel
theorem dX4_hasChunk_4 : decode cX4_hasChunk 4 = .ok (.iload_n 1, 1) := by decide +kernel
theorem dX4_hasChunk_5 : decode cX4_hasChunk 5 = .ok (.iload_n 0, 1) := by decide +kernel
theorem dX4_hasChunk_6 : decode cX4_hasChunk 6 = .ok (.invokestatic 150, 3) := by decide +kernel
theorem dX4_hasChunk_9 : decode cX4_hasChunk 9 = .ok (.if_icmp .ge 7, 3) := by decide +kernel
theorem dX4_hasChunk_12 : decode cX4_hasChunk 12 = .ok (.iconst 1, 1) := by decide +kernel
theorem dX4_hasChunk_13 : decode cX4_hasChunk 13 = .ok (.goto 4, 3) := by decide +kernel
theorem dX4_hasChunk_16 : decode cX4_hasChunk 16 = .ok (.iconst 0, 1) := by decide +kernel
theorem dX4_hasChunk_17 : decode cX4_hasChunk 17 = .ok (.ireturn, 1) := by decide +kernel
theorem dX4_chunkLength_0 : decode cX4_chunkLength 0 = .ok (.sipush 1024, 3) := by decide +kernel
theorem dX4_chunkLength_3 : decode cX4_chunkLength 3 = .ok (.iload_n 0, 1) := by decide +kernel
theorem dX4_chunkLength_4 : decode cX4_chunkLength 4 = .ok (.iload_n 1, 1) := by decide +kernel
theorem dX4_chunkLength_5 : decode cX4_chunkLength 5 = .ok (.sipush 1024, 3) := by decide +kernel
theorem dX4_chunkLength_8 : decode cX4_chunkLength 8 = .ok (.imul, 1) := by decide +kernel
theorem dX4_chunkLength_9 : decode cX4_chunkLength 9 = .ok (.isub, 1) := by decide +kernel
theorem dX4_chunkLength_10 : decode cX4_chunkLength 10 = .ok (.invokestatic 166, 3) := by decide +kernel
theorem dX4_chunkLength_13 : decode cX4_chunkLength 13 = .ok (.ireturn, 1) := by decide +kernel
set_option maxRecDepth 20000 in
theorem ggX4_deriveKey_X1_restart : GoodIn wsX4_deriveKey wsX1_restart := goodIn_r _ [8, 9, 10, 11, 12, 13, 14, 15, 16, 17, 7, 18, 19, 20, 21, 22, 23, 24, 25, 26, 27, 28, 29, 30, 119, 120, 121, 122, 123, 124, 125, 126, 127, 128, 129, 130, 131] (by decide +kernel) (by decide +kernel)
set_option maxRecDepth 20000 in
theorem gX4_deriveKey_X1_restart : GoodIn wsX4_deriveKey (wsV RX4 76 RX1 yX1_restart wsX1_restart) := goodIn_app (goodIn_of _ (by decide +kernel)) ggX4_deriveKey_X1_restart
set_option maxRecDepth 20000 in
theorem ggX4_deriveKey_X1_absorb : GoodIn wsX4_deriveKey wsX1_absorb := goodIn_r _ [34, 35, 36, 37, 38, 39, 40, 41, 42, 43, 44, 7, 45, 30, 24, 29, 13, 46, 47, 48, 49, 50, 14, 15, 51, 9, 11, 52, 53, 54, 55, 23, 12, 56, 57, 58, 59, 60, 61, 62, 63, 64, 65, 66, 67, 68, 69, 70, 71, 72, 73, 74, 75, 76, 77, 78, 79, 80, 81, 82, 83, 84, 85, 86, 87, 88, 89, 90, 91, 92, 93, 94, 95, 19, 20, 21, 22, 16, 17, 18, 25, 26, 27, 28, 96, 97, 98, 99, 117, 118, 119, 120, 121, 122, 123, 124, 125, 126, 127, 128, 129, 130, 131, 132, 133, 134, 135, 136, 137, 138, 139] (by decide +kernel) (by decide +kernel)
set_option maxRecDepth 20000 in
theorem gX4_deriveKey_X1_absorb : GoodIn wsX4_deriveKey (wsV RX4 92 RX1 yX1_absorb wsX1_absorb) := goodIn_app (goodIn_of _ (by decide +kernel)) ggX4_deriveKey_X1_absorb
set_option maxRecDepth 20000 in
theorem ggX4_deriveKey_X1_prepareLast : GoodIn wsX4_deriveKey wsX1_prepareLast := goodIn_r _ [103, 15, 50, 51, 9, 11, 52, 53, 54, 7, 55, 24, 23, 29, 12, 14, 30, 56, 57, 58, 59, 60, 61, 62, 63, 64, 65, 66, 67, 68, 69, 70, 71, 72, 73, 74, 75, 76, 77, 78, 79, 80, 81, 82, 83, 84, 85, 86, 87, 88, 89, 90, 91, 119, 120, 121, 122, 123, 124, 125, 126, 127, 128, 129, 130, 131, 132, 133, 134, 135, 136, 137, 138, 139] (by decide +kernel) (by decide +kernel)
set_option maxRecDepth 20000 in
theorem gX4_deriveKey_X1_prepareLast : GoodIn wsX4_deriveKey (wsV RX4 101 RX1 yX1_prepareLast wsX1_prepareLast) := goodIn_app (goodIn_of _ (by decide +kernel)) ggX4_deriveKey_X1_prepareLast
set_option maxRecDepth 20000 in
theorem ggX4_deriveKey_X2_makeRoot : GoodIn wsX4_deriveKey wsX2_makeRoot := goodIn_r _ [107, 65, 132, 133, 134, 135, 136, 137, 138, 139] (by decide +kernel) (by decide +kernel)
set_option maxRecDepth 20000 in
theorem gX4_deriveKey_X2_makeRoot : GoodIn wsX4_deriveKey (wsV RX4 190 RX2 yX2_makeRoot wsX2_makeRoot) := goodIn_app (goodIn_of _ (by decide +kernel)) ggX4_deriveKey_X2_makeRoot
set_option maxRecDepth 20000 in
theorem ggX4_deriveKey_X2_run : GoodIn wsX4_deriveKey wsX2_run := goodIn_r _ [69, 70, 71, 61, 72, 73, 74, 59, 75, 76, 63, 64, 65, 62, 77, 78, 79, 80, 81, 82, 83, 84, 85, 86, 132, 133, 134, 135, 136, 137, 138, 139] (by decide +kernel) (by decide +kernel)
set_option maxRecDepth 20000 in
theorem gX4_deriveKey_X2_run : GoodIn wsX4_deriveKey (wsV RX4 171 RX2 yX2_run wsX2_run) := goodIn_app (goodIn_of _ (by decide +kernel)) ggX4_deriveKey_X2_run
set_option maxRecDepth 20000 in
theorem ggX4_deriveKey_X2_writeChain : GoodIn wsX4_deriveKey wsX2_writeChain := goodIn_r _ [95, 71, 132, 133, 134, 135, 136, 137, 138, 139] (by decide +kernel) (by decide +kernel)
set_option maxRecDepth 20000 in
theorem gX4_deriveKey_X2_writeChain : GoodIn wsX4_deriveKey (wsV RX4 174 RX2 yX2_writeChain wsX2_writeChain) := goodIn_app (goodIn_of _ (by decide +kernel)) ggX4_deriveKey_X2_writeChain
theorem dX4_deriveKey_0 : decode cX4_deriveKey 0 = .ok (.aload_n 0, 1) := by decide +kernel
theorem dX4_deriveKey_1 : decode cX4_deriveKey 1 = .ok (.getfield 32, 3) := by decide +kernel
theorem dX4_deriveKey_4 : decode cX4_deriveKey 4 = .ok (.iconst 0, 1) := by decide +kernel
theorem dX4_deriveKey_5 : decode cX4_deriveKey 5 = .ok (.bipush 32, 2) := by decide +kernel
theorem dX4_deriveKey_7 : decode cX4_deriveKey 7 = .ok (.getstatic 71, 3) := by decide +kernel
theorem dX4_deriveKey_10 : decode cX4_deriveKey 10 = .ok (.iconst 0, 1) := by decide +kernel
theorem dX4_deriveKey_11 : decode cX4_deriveKey 11 = .ok (.invokevirtual 76, 3) := by decide +kernel
theorem dX4_deriveKey_14 : decode cX4_deriveKey 14 = .ok (.aload_n 0, 1) := by decide +kernel
theorem dX4_deriveKey_15 : decode cX4_deriveKey 15 = .ok (.getfield 32, 3) := by decide +kernel
theorem dX4_deriveKey_18 : decode cX4_deriveKey 18 = .ok (.aload_n 1, 1) := by decide +kernel
theorem dX4_deriveKey_19 : decode cX4_deriveKey 19 = .ok (.iconst 0, 1) := by decide +kernel
theorem dX4_deriveKey_20 : decode cX4_deriveKey 20 = .ok (.aload_n 1, 1) := by decide +kernel
theorem dX4_deriveKey_21 : decode cX4_deriveKey 21 = .ok (.getfield 57, 3) := by decide +kernel
theorem dX4_deriveKey_24 : decode cX4_deriveKey 24 = .ok (.invokevirtual 92, 3) := by decide +kernel
theorem dX4_deriveKey_27 : decode cX4_deriveKey 27 = .ok (.aload_n 0, 1) := by decide +kernel
theorem dX4_deriveKey_28 : decode cX4_deriveKey 28 = .ok (.getfield 32, 3) := by decide +kernel
theorem dX4_deriveKey_31 : decode cX4_deriveKey 31 = .ok (.invokevirtual 101, 3) := by decide +kernel
theorem dX4_deriveKey_34 : decode cX4_deriveKey 34 = .ok (.aload_n 0, 1) := by decide +kernel
theorem dX4_deriveKey_35 : decode cX4_deriveKey 35 = .ok (.getfield 32, 3) := by decide +kernel
theorem dX4_deriveKey_38 : decode cX4_deriveKey 38 = .ok (.getfield 104, 3) := by decide +kernel
theorem dX4_deriveKey_41 : decode cX4_deriveKey 41 = .ok (.invokevirtual 190, 3) := by decide +kernel
theorem dX4_deriveKey_44 : decode cX4_deriveKey 44 = .ok (.aload_n 0, 1) := by decide +kernel
theorem dX4_deriveKey_45 : decode cX4_deriveKey 45 = .ok (.getfield 32, 3) := by decide +kernel
theorem dX4_deriveKey_48 : decode cX4_deriveKey 48 = .ok (.getfield 104, 3) := by decide +kernel
theorem dX4_deriveKey_51 : decode cX4_deriveKey 51 = .ok (.invokevirtual 171, 3) := by decide +kernel
theorem dX4_deriveKey_54 : decode cX4_deriveKey 54 = .ok (.aload_n 0, 1) := by decide +kernel
theorem dX4_deriveKey_55 : decode cX4_deriveKey 55 = .ok (.getfield 32, 3) := by decide +kernel
theorem dX4_deriveKey_58 : decode cX4_deriveKey 58 = .ok (.getfield 104, 3) := by decide +kernel
theorem dX4_deriveKey_61 : decode cX4_deriveKey 61 = .ok (.aload_n 0, 1) := by decide +kernel
theorem dX4_deriveKey_62 : decode cX4_deriveKey 62 = .ok (.getfield 43, 3) := by decide +kernel
theorem dX4_deriveKey_65 : decode cX4_deriveKey 65 = .ok (.iconst 0, 1) := by decide +kernel
theorem dX4_deriveKey_66 : decode cX4_deriveKey 66 = .ok (.invokevirtual 174, 3) := by decide +kernel
theorem dX4_deriveKey_69 : decode cX4_deriveKey 69 = .ok (.return_, 1) := by decide +kernel
set_option maxRecDepth 20000 in
theorem ggX4_prepareTree_X1_restart : GoodIn wsX4_prepareTree wsX1_restart := goodIn_r _ [7, 8, 9, 10, 11, 12, 13, 14, 15, 16, 6, 17, 18, 19, 20, 21, 22, 23, 24, 25, 26, 27, 28, 29, 110, 111, 112, 113, 114, 115, 116, 117, 118, 119, 120, 121, 122] (by decide +kernel) (by decide +kernel)
set_option maxRecDepth 20000 in
theorem gX4_prepareTree_X1_restart : GoodIn wsX4_prepareTree (wsV RX4 76 RX1 yX1_restart wsX1_restart) := goodIn_app (goodIn_of _ (by decide +kernel)) ggX4_prepareTree_X1_restart
set_option maxRecDepth 20000 in
theorem ggX4_prepareTree_X1_absorb : GoodIn wsX4_prepareTree wsX1_absorb := goodIn_r _ [33, 34, 35, 36, 37, 38, 39, 40, 41, 42, 43, 6, 44, 29, 23, 28, 12, 45, 46, 47, 48, 49, 13, 14, 50, 8, 10, 51, 52, 53, 54, 22, 11, 55, 56, 57, 58, 59, 60, 61, 62, 63, 64, 65, 66, 67, 68, 69, 70, 71, 72, 73, 74, 75, 76, 77, 78, 79, 80, 81, 82, 83, 84, 85, 86, 87, 88, 89, 90, 91, 92, 93, 94, 18, 19, 20, 21, 15, 16, 17, 24, 25, 26, 27, 95, 96, 97, 98, 123, 124, 110, 111, 112, 113, 114, 115, 116, 117, 118, 119, 120, 121, 122, 125, 126, 127, 128, 129, 130, 131, 132] (by decide +kernel) (by decide +kernel)
set_option maxRecDepth 20000 in
theorem gX4_prepareTree_X1_absorb : GoodIn wsX4_prepareTree (wsV RX4 92 RX1 yX1_absorb wsX1_absorb) := goodIn_app (goodIn_of _ (by decide +kernel)) ggX4_prepareTree_X1_absorb
set_option maxRecDepth 20000 in
theorem ggX4_prepareTree_X1_prepareLast : GoodIn wsX4_prepareTree wsX1_prepareLast := goodIn_r _ [102, 14, 49, 50, 8, 10, 51, 52, 53, 6, 54, 23, 22, 28, 11, 13, 29, 55, 56, 57, 58, 59, 60, 61, 62, 63, 64, 65, 66, 67, 68, 69, 70, 71, 72, 73, 74, 75, 76, 77, 78, 79, 80, 81, 82, 83, 84, 85, 86, 87, 88, 89, 90, 110, 111, 112, 113, 114, 115, 116, 117, 118, 119, 120, 121, 122, 125, 126, 127, 128, 129, 130, 131, 132] (by decide +kernel) (by decide +kernel)
set_option maxRecDepth 20000 in
theorem gX4_prepareTree_X1_prepareLast : GoodIn wsX4_prepareTree (wsV RX4 101 RX1 yX1_prepareLast wsX1_prepareLast) := goodIn_app (goodIn_of _ (by decide +kernel)) ggX4_prepareTree_X1_prepareLast
theorem dX4_prepareTree_0 : decode cX4_prepareTree 0 = .ok (.aload_n 0, 1) := by decide +kernel
theorem dX4_prepareTree_1 : decode cX4_prepareTree 1 = .ok (.getfield 32, 3) := by decide +kernel
theorem dX4_prepareTree_4 : decode cX4_prepareTree 4 = .ok (.iconst 0, 1) := by decide +kernel
theorem dX4_prepareTree_5 : decode cX4_prepareTree 5 = .ok (.iconst 0, 1) := by decide +kernel
theorem dX4_prepareTree_6 : decode cX4_prepareTree 6 = .ok (.getstatic 71, 3) := by decide +kernel
theorem dX4_prepareTree_9 : decode cX4_prepareTree 9 = .ok (.iload 4, 2) := by decide +kernel
theorem dX4_prepareTree_11 : decode cX4_prepareTree 11 = .ok (.invokevirtual 76, 3) := by decide +kernel
theorem dX4_prepareTree_14 : decode cX4_prepareTree 14 = .ok (.aload_n 0, 1) := by decide +kernel
theorem dX4_prepareTree_15 : decode cX4_prepareTree 15 = .ok (.getfield 32, 3) := by decide +kernel
theorem dX4_prepareTree_18 : decode cX4_prepareTree 18 = .ok (.aload_n 1, 1) := by decide +kernel
theorem dX4_prepareTree_19 : decode cX4_prepareTree 19 = .ok (.iload_n 2, 1) := by decide +kernel
theorem dX4_prepareTree_20 : decode cX4_prepareTree 20 = .ok (.iload_n 3, 1) := by decide +kernel
theorem dX4_prepareTree_21 : decode cX4_prepareTree 21 = .ok (.invokevirtual 92, 3) := by decide +kernel
theorem dX4_prepareTree_24 : decode cX4_prepareTree 24 = .ok (.aload_n 0, 1) := by decide +kernel
theorem dX4_prepareTree_25 : decode cX4_prepareTree 25 = .ok (.getfield 32, 3) := by decide +kernel
theorem dX4_prepareTree_28 : decode cX4_prepareTree 28 = .ok (.invokevirtual 101, 3) := by decide +kernel
theorem dX4_prepareTree_31 : decode cX4_prepareTree 31 = .ok (.return_, 1) := by decide +kernel
set_option maxRecDepth 20000 in
theorem ggX4_climb_X0_readChain : GoodIn wsX4_climb wsX0_readChain := goodIn_r _ [10, 11, 12, 13, 9, 14, 15, 16, 17, 18, 19, 20, 83, 84] (by decide +kernel) (by decide +kernel)
set_option maxRecDepth 20000 in
theorem gX4_climb_X0_readChain : GoodIn wsX4_climb (wsV RX4 80 RX0 yX0_readChain wsX0_readChain) := goodIn_app (goodIn_of _ (by decide +kernel)) ggX4_climb_X0_readChain
set_option maxRecDepth 20000 in
theorem ggX4_climb_X2_run : GoodIn wsX4_climb wsX2_run := goodIn_r _ [25, 26, 27, 28, 29, 30, 31, 24, 32, 33, 34, 35, 36, 37, 38, 39, 40, 41, 42, 43, 44, 45, 46, 47, 85, 86, 87, 88, 89, 90, 91, 92] (by decide +kernel) (by decide +kernel)
set_option maxRecDepth 20000 in
theorem gX4_climb_X2_run : GoodIn wsX4_climb (wsV RX4 171 RX2 yX2_run wsX2_run) := goodIn_app (goodIn_of _ (by decide +kernel)) ggX4_climb_X2_run
set_option maxRecDepth 20000 in
theorem ggX4_climb_X2_joinBehind : GoodIn wsX4_climb wsX2_joinBehind := goodIn_r _ [51, 37, 27, 52, 53, 54, 24, 55, 28, 34, 35, 36, 85, 86, 87, 88, 89, 90, 91, 92] (by decide +kernel) (by decide +kernel)
set_option maxRecDepth 20000 in
theorem gX4_climb_X2_joinBehind : GoodIn wsX4_climb (wsV RX4 193 RX2 yX2_joinBehind wsX2_joinBehind) := goodIn_app (goodIn_of _ (by decide +kernel)) ggX4_climb_X2_joinBehind
set_option maxRecDepth 20000 in
theorem ggX4_climb_X2_joinBefore : GoodIn wsX4_climb wsX2_joinBefore := goodIn_r _ [59, 37, 27, 52, 53, 54, 24, 55, 28, 34, 35, 36, 85, 86, 87, 88, 89, 90, 91, 92] (by decide +kernel) (by decide +kernel)
set_option maxRecDepth 20000 in
theorem gX4_climb_X2_joinBefore : GoodIn wsX4_climb (wsV RX4 197 RX2 yX2_joinBefore wsX2_joinBefore) := goodIn_app (goodIn_of _ (by decide +kernel)) ggX4_climb_X2_joinBefore
theorem dX4_climb_0 : decode cX4_climb 0 = .ok (.aload_n 0, 1) := by decide +kernel
theorem dX4_climb_1 : decode cX4_climb 1 = .ok (.getfield 39, 3) := by decide +kernel
theorem dX4_climb_4 : decode cX4_climb 4 = .ok (.getfield 157, 3) := by decide +kernel
theorem dX4_climb_7 : decode cX4_climb 7 = .ok (.iconst 1, 1) := by decide +kernel
theorem dX4_climb_8 : decode cX4_climb 8 = .ok (.isub, 1) := by decide +kernel
theorem dX4_climb_9 : decode cX4_climb 9 = .ok (.istore_n 3, 1) := by decide +kernel
theorem dX4_climb_10 : decode cX4_climb 10 = .ok (.iload_n 3, 1) := by decide +kernel
theorem dX4_climb_11 : decode cX4_climb 11 = .ok (.ifCond .lt 90, 3) := by decide +kernel
theorem dX4_climb_14 : decode cX4_climb 14 = .ok (.aload_n 0, 1) := by decide +kernel
theorem dX4_climb_15 : decode cX4_climb 15 = .ok (.getfield 28, 3) := by decide +kernel
theorem dX4_climb_18 : decode cX4_climb 18 = .ok (.iload_n 1, 1) := by decide +kernel
theorem dX4_climb_19 : decode cX4_climb 19 = .ok (.iload_n 3, 1) := by decide +kernel
theorem dX4_climb_20 : decode cX4_climb 20 = .ok (.bipush 32, 2) := by decide +kernel
theorem dX4_climb_22 : decode cX4_climb 22 = .ok (.imul, 1) := by decide +kernel
theorem dX4_climb_23 : decode cX4_climb 23 = .ok (.iadd, 1) := by decide +kernel
theorem dX4_climb_24 : decode cX4_climb 24 = .ok (.aload_n 0, 1) := by decide +kernel
theorem dX4_climb_25 : decode cX4_climb 25 = .ok (.getfield 43, 3) := by decide +kernel
theorem dX4_climb_28 : decode cX4_climb 28 = .ok (.invokevirtual 80, 3) := by decide +kernel
theorem dX4_climb_31 : decode cX4_climb 31 = .ok (.aload_n 0, 1) := by decide +kernel
theorem dX4_climb_32 : decode cX4_climb 32 = .ok (.getfield 32, 3) := by decide +kernel
theorem dX4_climb_35 : decode cX4_climb 35 = .ok (.getfield 104, 3) := by decide +kernel
theorem dX4_climb_38 : decode cX4_climb 38 = .ok (.invokevirtual 171, 3) := by decide +kernel
theorem dX4_climb_41 : decode cX4_climb 41 = .ok (.aload_n 0, 1) := by decide +kernel
theorem dX4_climb_42 : decode cX4_climb 42 = .ok (.getfield 39, 3) := by decide +kernel
theorem dX4_climb_45 : decode cX4_climb 45 = .ok (.getfield 160, 3) := by decide +kernel
theorem dX4_climb_48 : decode cX4_climb 48 = .ok (.iload_n 3, 1) := by decide +kernel
theorem dX4_climb_49 : decode cX4_climb 49 = .ok (.iaload, 1) := by decide +kernel
theorem dX4_climb_50 : decode cX4_climb 50 = .ok (.iload_n 2, 1) := by decide +kernel
theorem dX4_climb_51 : decode cX4_climb 51 = .ok (.if_icmp .ge 25, 3) := by decide +kernel
theorem dX4_climb_54 : decode cX4_climb 54 = .ok (.aload_n 0, 1) := by decide +kernel
theorem dX4_climb_55 : decode cX4_climb 55 = .ok (.getfield 32, 3) := by decide +kernel
theorem dX4_climb_58 : decode cX4_climb 58 = .ok (.getfield 104, 3) := by decide +kernel
theorem dX4_climb_61 : decode cX4_climb 61 = .ok (.aload_n 0, 1) := by decide +kernel
theorem dX4_climb_62 : decode cX4_climb 62 = .ok (.getfield 43, 3) := by decide +kernel
theorem dX4_climb_65 : decode cX4_climb 65 = .ok (.iconst 0, 1) := by decide +kernel
theorem dX4_climb_66 : decode cX4_climb 66 = .ok (.getstatic 71, 3) := by decide +kernel
theorem dX4_climb_69 : decode cX4_climb 69 = .ok (.iconst 0, 1) := by decide +kernel
theorem dX4_climb_70 : decode cX4_climb 70 = .ok (.invokevirtual 193, 3) := by decide +kernel
theorem dX4_climb_73 : decode cX4_climb 73 = .ok (.goto 22, 3) := by decide +kernel
theorem dX4_climb_76 : decode cX4_climb 76 = .ok (.aload_n 0, 1) := by decide +kernel
theorem dX4_climb_77 : decode cX4_climb 77 = .ok (.getfield 32, 3) := by decide +kernel
theorem dX4_climb_80 : decode cX4_climb 80 = .ok (.getfield 104, 3) := by decide +kernel
theorem dX4_climb_83 : decode cX4_climb 83 = .ok (.aload_n 0, 1) := by decide +kernel
theorem dX4_climb_84 : decode cX4_climb 84 = .ok (.getfield 43, 3) := by decide +kernel
theorem dX4_climb_87 : decode cX4_climb 87 = .ok (.iconst 0, 1) := by decide +kernel
theorem dX4_climb_88 : decode cX4_climb 88 = .ok (.getstatic 71, 3) := by decide +kernel
theorem dX4_climb_91 : decode cX4_climb 91 = .ok (.iconst 0, 1) := by decide +kernel
theorem dX4_climb_92 : decode cX4_climb 92 = .ok (.invokevirtual 197, 3) := by decide +kernel
theorem dX4_climb_95 : decode cX4_climb 95 = .ok (.iinc 3 (-1), 3) := by decide +kernel
theorem dX4_climb_98 : decode cX4_climb 98 = .ok (.goto (-88), 3) := by decide +kernel
theorem dX4_climb_101 : decode cX4_climb 101 = .ok (.return_, 1) := by decide +kernel
end
section
set_option maxRecDepth 20000 in
theorem ggX5_init_X5_plain : GoodIn wsX5_init wsX5_plain := goodIn_r _ [41, 11, 16, 42, 43, 44, 45, 46, 47, 48, 49, 50, 51, 52, 53, 54, 55, 56, 57, 58, 59, 60, 61, 62, 63, 64, 65, 66, 67, 68, 69] (by decide +kernel) (by decide +kernel)
set_option maxRecDepth 20000 in
theorem gX5_init_X5_plain : GoodIn wsX5_init (wsV RX5 84 RX5 yX5_plain wsX5_plain) := goodIn_app (goodIn_of _ (by decide +kernel)) ggX5_init_X5_plain
theorem dX5_init_0 : decode cX5_init 0 = .ok (.aload_n 0, 1) := by decide +kernel
theorem dX5_init_1 : decode cX5_init 1 = .ok (.invokespecial 1, 3) := by decide +kernel
theorem dX5_init_4 : decode cX5_init 4 = .ok (.aload_n 0, 1) := by decide +kernel
theorem dX5_init_5 : decode cX5_init 5 = .ok (.sipush 1600, 3) := by decide +kernel
theorem dX5_init_8 : decode cX5_init 8 = .ok (.newarray .int, 2) := by decide +kernel
theorem dX5_init_10 : decode cX5_init 10 = .ok (.putfield 7, 3) := by decide +kernel
theorem dX5_init_13 : decode cX5_init 13 = .ok (.aload_n 0, 1) := by decide +kernel
theorem dX5_init_14 : decode cX5_init 14 = .ok (.bipush 8, 2) := by decide +kernel
theorem dX5_init_16 : decode cX5_init 16 = .ok (.newarray .int, 2) := by decide +kernel
theorem dX5_init_18 : decode cX5_init 18 = .ok (.putfield 13, 3) := by decide +kernel
theorem dX5_init_21 : decode cX5_init 21 = .ok (.aload_n 0, 1) := by decide +kernel
theorem dX5_init_22 : decode cX5_init 22 = .ok (.ldc 16, 2) := by decide +kernel
theorem dX5_init_24 : decode cX5_init 24 = .ok (.newarray .int, 2) := by decide +kernel
theorem dX5_init_26 : decode cX5_init 26 = .ok (.putfield 17, 3) := by decide +kernel
theorem dX5_init_29 : decode cX5_init 29 = .ok (.aload_n 0, 1) := by decide +kernel
theorem dX5_init_30 : decode cX5_init 30 = .ok (.iconst 4, 1) := by decide +kernel
theorem dX5_init_31 : decode cX5_init 31 = .ok (.newarray .int, 2) := by decide +kernel
theorem dX5_init_33 : decode cX5_init 33 = .ok (.putfield 20, 3) := by decide +kernel
theorem dX5_init_36 : decode cX5_init 36 = .ok (.aload_n 0, 1) := by decide +kernel
theorem dX5_init_37 : decode cX5_init 37 = .ok (.iconst 4, 1) := by decide +kernel
theorem dX5_init_38 : decode cX5_init 38 = .ok (.newarray .int, 2) := by decide +kernel
theorem dX5_init_40 : decode cX5_init 40 = .ok (.putfield 23, 3) := by decide +kernel
theorem dX5_init_43 : decode cX5_init 43 = .ok (.aload_n 0, 1) := by decide +kernel
theorem dX5_init_44 : decode cX5_init 44 = .ok (.bipush 32, 2) := by decide +kernel
theorem dX5_init_46 : decode cX5_init 46 = .ok (.newarray .int, 2) := by decide +kernel
theorem dX5_init_48 : decode cX5_init 48 = .ok (.putfield 26, 3) := by decide +kernel
theorem dX5_init_51 : decode cX5_init 51 = .ok (.aload_n 0, 1) := by decide +kernel
theorem dX5_init_52 : decode cX5_init 52 = .ok (.sipush 1280, 3) := by decide +kernel
theorem dX5_init_55 : decode cX5_init 55 = .ok (.newarray .int, 2) := by decide +kernel
theorem dX5_init_57 : decode cX5_init 57 = .ok (.putfield 29, 3) := by decide +kernel
theorem dX5_init_60 : decode cX5_init 60 = .ok (.aload_n 0, 1) := by decide +kernel
theorem dX5_init_61 : decode cX5_init 61 = .ok (.iconst 4, 1) := by decide +kernel
theorem dX5_init_62 : decode cX5_init 62 = .ok (.newarray .int, 2) := by decide +kernel
theorem dX5_init_64 : decode cX5_init 64 = .ok (.putfield 32, 3) := by decide +kernel
theorem dX5_init_67 : decode cX5_init 67 = .ok (.aload_n 0, 1) := by decide +kernel
theorem dX5_init_68 : decode cX5_init 68 = .ok (.sipush 20000, 3) := by decide +kernel
theorem dX5_init_71 : decode cX5_init 71 = .ok (.newarray .int, 2) := by decide +kernel
theorem dX5_init_73 : decode cX5_init 73 = .ok (.putfield 35, 3) := by decide +kernel
theorem dX5_init_76 : decode cX5_init 76 = .ok (.aload_n 0, 1) := by decide +kernel
theorem dX5_init_77 : decode cX5_init 77 = .ok (.sipush 2000, 3) := by decide +kernel
theorem dX5_init_80 : decode cX5_init 80 = .ok (.newarray .int, 2) := by decide +kernel
theorem dX5_init_82 : decode cX5_init 82 = .ok (.putfield 38, 3) := by decide +kernel
theorem dX5_init_85 : decode cX5_init 85 = .ok (.aload_n 0, 1) := by decide +kernel
theorem dX5_init_86 : decode cX5_init 86 = .ok (.bipush 8, 2) := by decide +kernel
theorem dX5_init_88 : decode cX5_init 88 = .ok (.newarray .int, 2) := by decide +kernel
theorem dX5_init_90 : decode cX5_init 90 = .ok (.putfield 41, 3) := by decide +kernel
theorem dX5_init_93 : decode cX5_init 93 = .ok (.aload_n 0, 1) := by decide +kernel
theorem dX5_init_94 : decode cX5_init 94 = .ok (.bipush 8, 2) := by decide +kernel
theorem dX5_init_96 : decode cX5_init 96 = .ok (.newarray .int, 2) := by decide +kernel
theorem dX5_init_98 : decode cX5_init 98 = .ok (.putfield 44, 3) := by decide +kernel
theorem dX5_init_101 : decode cX5_init 101 = .ok (.aload_n 0, 1) := by decide +kernel
theorem dX5_init_102 : decode cX5_init 102 = .ok (.bipush 8, 2) := by decide +kernel
theorem dX5_init_104 : decode cX5_init 104 = .ok (.newarray .int, 2) := by decide +kernel
theorem dX5_init_106 : decode cX5_init 106 = .ok (.putfield 47, 3) := by decide +kernel
theorem dX5_init_109 : decode cX5_init 109 = .ok (.aload_n 0, 1) := by decide +kernel
theorem dX5_init_110 : decode cX5_init 110 = .ok (.bipush 16, 2) := by decide +kernel
theorem dX5_init_112 : decode cX5_init 112 = .ok (.newarray .int, 2) := by decide +kernel
theorem dX5_init_114 : decode cX5_init 114 = .ok (.putfield 50, 3) := by decide +kernel
theorem dX5_init_117 : decode cX5_init 117 = .ok (.aload_n 0, 1) := by decide +kernel
theorem dX5_init_118 : decode cX5_init 118 = .ok (.bipush 16, 2) := by decide +kernel
theorem dX5_init_120 : decode cX5_init 120 = .ok (.newarray .int, 2) := by decide +kernel
theorem dX5_init_122 : decode cX5_init 122 = .ok (.putfield 53, 3) := by decide +kernel
theorem dX5_init_125 : decode cX5_init 125 = .ok (.aload_n 0, 1) := by decide +kernel
theorem dX5_init_126 : decode cX5_init 126 = .ok (.bipush 16, 2) := by decide +kernel
theorem dX5_init_128 : decode cX5_init 128 = .ok (.newarray .int, 2) := by decide +kernel
theorem dX5_init_130 : decode cX5_init 130 = .ok (.putfield 56, 3) := by decide +kernel
theorem dX5_init_133 : decode cX5_init 133 = .ok (.aload_n 0, 1) := by decide +kernel
theorem dX5_init_134 : decode cX5_init 134 = .ok (.bipush 16, 2) := by decide +kernel
theorem dX5_init_136 : decode cX5_init 136 = .ok (.newarray .int, 2) := by decide +kernel
theorem dX5_init_138 : decode cX5_init 138 = .ok (.putfield 59, 3) := by decide +kernel
theorem dX5_init_141 : decode cX5_init 141 = .ok (.aload_n 0, 1) := by decide +kernel
theorem dX5_init_142 : decode cX5_init 142 = .ok (.bipush 16, 2) := by decide +kernel
theorem dX5_init_144 : decode cX5_init 144 = .ok (.newarray .int, 2) := by decide +kernel
theorem dX5_init_146 : decode cX5_init 146 = .ok (.putfield 62, 3) := by decide +kernel
theorem dX5_init_149 : decode cX5_init 149 = .ok (.aload_n 0, 1) := by decide +kernel
theorem dX5_init_150 : decode cX5_init 150 = .ok (.bipush 96, 2) := by decide +kernel
theorem dX5_init_152 : decode cX5_init 152 = .ok (.newarray .int, 2) := by decide +kernel
theorem dX5_init_154 : decode cX5_init 154 = .ok (.putfield 65, 3) := by decide +kernel
theorem dX5_init_157 : decode cX5_init 157 = .ok (.aload_n 0, 1) := by decide +kernel
theorem dX5_init_158 : decode cX5_init 158 = .ok (.bipush 20, 2) := by decide +kernel
theorem dX5_init_160 : decode cX5_init 160 = .ok (.newarray .boolean, 2) := by decide +kernel
theorem dX5_init_162 : decode cX5_init 162 = .ok (.putfield 68, 3) := by decide +kernel
theorem dX5_init_165 : decode cX5_init 165 = .ok (.aload_n 0, 1) := by decide +kernel
theorem dX5_init_166 : decode cX5_init 166 = .ok (.getfield 41, 3) := by decide +kernel
theorem dX5_init_169 : decode cX5_init 169 = .ok (.iconst 0, 1) := by decide +kernel
theorem dX5_init_170 : decode cX5_init 170 = .ok (.ldc 72, 2) := by decide +kernel
theorem dX5_init_172 : decode cX5_init 172 = .ok (.iastore, 1) := by decide +kernel
theorem dX5_init_173 : decode cX5_init 173 = .ok (.aload_n 0, 1) := by decide +kernel
theorem dX5_init_174 : decode cX5_init 174 = .ok (.getfield 41, 3) := by decide +kernel
theorem dX5_init_177 : decode cX5_init 177 = .ok (.iconst 1, 1) := by decide +kernel
theorem dX5_init_178 : decode cX5_init 178 = .ok (.ldc 73, 2) := by decide +kernel
theorem dX5_init_180 : decode cX5_init 180 = .ok (.iastore, 1) := by decide +kernel
theorem dX5_init_181 : decode cX5_init 181 = .ok (.aload_n 0, 1) := by decide +kernel
theorem dX5_init_182 : decode cX5_init 182 = .ok (.getfield 41, 3) := by decide +kernel
theorem dX5_init_185 : decode cX5_init 185 = .ok (.iconst 2, 1) := by decide +kernel
theorem dX5_init_186 : decode cX5_init 186 = .ok (.ldc 74, 2) := by decide +kernel
theorem dX5_init_188 : decode cX5_init 188 = .ok (.iastore, 1) := by decide +kernel
theorem dX5_init_189 : decode cX5_init 189 = .ok (.aload_n 0, 1) := by decide +kernel
theorem dX5_init_190 : decode cX5_init 190 = .ok (.getfield 41, 3) := by decide +kernel
theorem dX5_init_193 : decode cX5_init 193 = .ok (.iconst 3, 1) := by decide +kernel
theorem dX5_init_194 : decode cX5_init 194 = .ok (.ldc 75, 2) := by decide +kernel
theorem dX5_init_196 : decode cX5_init 196 = .ok (.iastore, 1) := by decide +kernel
theorem dX5_init_197 : decode cX5_init 197 = .ok (.aload_n 0, 1) := by decide +kernel
theorem dX5_init_198 : decode cX5_init 198 = .ok (.getfield 41, 3) := by decide +kernel
theorem dX5_init_201 : decode cX5_init 201 = .ok (.iconst 4, 1) := by decide +kernel
theorem dX5_init_202 : decode cX5_init 202 = .ok (.ldc 76, 2) := by decide +kernel
theorem dX5_init_204 : decode cX5_init 204 = .ok (.iastore, 1) := by decide +kernel
theorem dX5_init_205 : decode cX5_init 205 = .ok (.aload_n 0, 1) := by decide +kernel
theorem dX5_init_206 : decode cX5_init 206 = .ok (.getfield 41, 3) := by decide +kernel
theorem dX5_init_209 : decode cX5_init 209 = .ok (.iconst 5, 1) := by decide +kernel
theorem dX5_init_210 : decode cX5_init 210 = .ok (.ldc 77, 2) := by decide +kernel
theorem dX5_init_212 : decode cX5_init 212 = .ok (.iastore, 1) := by decide +kernel
theorem dX5_init_213 : decode cX5_init 213 = .ok (.aload_n 0, 1) := by decide +kernel
theorem dX5_init_214 : decode cX5_init 214 = .ok (.getfield 41, 3) := by decide +kernel
theorem dX5_init_217 : decode cX5_init 217 = .ok (.bipush 6, 2) := by decide +kernel
theorem dX5_init_219 : decode cX5_init 219 = .ok (.ldc 78, 2) := by decide +kernel
theorem dX5_init_221 : decode cX5_init 221 = .ok (.iastore, 1) := by decide +kernel
theorem dX5_init_222 : decode cX5_init 222 = .ok (.aload_n 0, 1) := by decide +kernel
theorem dX5_init_223 : decode cX5_init 223 = .ok (.getfield 41, 3) := by decide +kernel
theorem dX5_init_226 : decode cX5_init 226 = .ok (.bipush 7, 2) := by decide +kernel
theorem dX5_init_228 : decode cX5_init 228 = .ok (.ldc 79, 2) := by decide +kernel
theorem dX5_init_230 : decode cX5_init 230 = .ok (.iastore, 1) := by decide +kernel
theorem dX5_init_231 : decode cX5_init 231 = .ok (.ldc2_w 80, 3) := by decide +kernel
theorem dX5_init_234 : decode cX5_init 234 = .ok (.lstore_n 1, 1) := by decide +kernel
theorem dX5_init_235 : decode cX5_init 235 = .ok (.iconst 0, 1) := by decide +kernel
theorem dX5_init_236 : decode cX5_init 236 = .ok (.istore_n 3, 1) := by decide +kernel
theorem dX5_init_237 : decode cX5_init 237 = .ok (.iload_n 3, 1) := by decide +kernel
theorem dX5_init_238 : decode cX5_init 238 = .ok (.bipush 16, 2) := by decide +kernel
theorem dX5_init_240 : decode cX5_init 240 = .ok (.if_icmp .ge 25, 3) := by decide +kernel
theorem dX5_init_243 : decode cX5_init 243 = .ok (.aload_n 0, 1) := by decide +kernel
theorem dX5_init_244 : decode cX5_init 244 = .ok (.getfield 62, 3) := by decide +kernel
theorem dX5_init_247 : decode cX5_init 247 = .ok (.iload_n 3, 1) := by decide +kernel
theorem dX5_init_248 : decode cX5_init 248 = .ok (.lload_n 1, 1) := by decide +kernel
theorem dX5_init_249 : decode cX5_init 249 = .ok (.iconst 4, 1) := by decide +kernel
theorem dX5_init_250 : decode cX5_init 250 = .ok (.iload_n 3, 1) := by decide +kernel
theorem dX5_init_251 : decode cX5_init 251 = .ok (.imul, 1) := by decide +kernel
theorem dX5_init_252 : decode cX5_init 252 = .ok (.lshr, 1) := by decide +kernel
theorem dX5_init_253 : decode cX5_init 253 = .ok (.ldc2_w 82, 3) := by decide +kernel
theorem dX5_init_256 : decode cX5_init 256 = .ok (.land, 1) := by decide +kernel
theorem dX5_init_257 : decode cX5_init 257 = .ok (.l2i, 1) := by decide +kernel
theorem dX5_init_258 : decode cX5_init 258 = .ok (.iastore, 1) := by decide +kernel
theorem dX5_init_259 : decode cX5_init 259 = .ok (.iinc 3 1, 3) := by decide +kernel
theorem dX5_init_262 : decode cX5_init 262 = .ok (.goto (-25), 3) := by decide +kernel
theorem dX5_init_265 : decode cX5_init 265 = .ok (.iconst 0, 1) := by decide +kernel
theorem dX5_init_266 : decode cX5_init 266 = .ok (.istore_n 3, 1) := by decide +kernel
theorem dX5_init_267 : decode cX5_init 267 = .ok (.iload_n 3, 1) := by decide +kernel
theorem dX5_init_268 : decode cX5_init 268 = .ok (.iconst 4, 1) := by decide +kernel
theorem dX5_init_269 : decode cX5_init 269 = .ok (.if_icmp .ge 14, 3) := by decide +kernel
theorem dX5_init_272 : decode cX5_init 272 = .ok (.aload_n 0, 1) := by decide +kernel
theorem dX5_init_273 : decode cX5_init 273 = .ok (.iload_n 3, 1) := by decide +kernel
theorem dX5_init_274 : decode cX5_init 274 = .ok (.invokevirtual 84, 3) := by decide +kernel
theorem dX5_init_277 : decode cX5_init 277 = .ok (.iinc 3 1, 3) := by decide +kernel
theorem dX5_init_280 : decode cX5_init 280 = .ok (.goto (-13), 3) := by decide +kernel
theorem dX5_init_283 : decode cX5_init 283 = .ok (.return_, 1) := by decide +kernel
theorem dX5_plain_0 : decode cX5_plain 0 = .ok (.iconst 0, 1) := by decide +kernel
theorem dX5_plain_1 : decode cX5_plain 1 = .ok (.istore_n 2, 1) := by decide +kernel
theorem dX5_plain_2 : decode cX5_plain 2 = .ok (.iload_n 2, 1) := by decide +kernel
theorem dX5_plain_3 : decode cX5_plain 3 = .ok (.bipush 8, 2) := by decide +kernel
theorem dX5_plain_5 : decode cX5_plain 5 = .ok (.if_icmp .ge 26, 3) := by decide +kernel
theorem dX5_plain_8 : decode cX5_plain 8 = .ok (.aload_n 0, 1) := by decide +kernel
theorem dX5_plain_9 : decode cX5_plain 9 = .ok (.getfield 26, 3) := by decide +kernel
theorem dX5_plain_12 : decode cX5_plain 12 = .ok (.bipush 8, 2) := by decide +kernel
theorem dX5_plain_14 : decode cX5_plain 14 = .ok (.iload_n 1, 1) := by decide +kernel
theorem dX5_plain_15 : decode cX5_plain 15 = .ok (.imul, 1) := by decide +kernel
theorem dX5_plain_16 : decode cX5_plain 16 = .ok (.iload_n 2, 1) := by decide +kernel
theorem dX5_plain_17 : decode cX5_plain 17 = .ok (.iadd, 1) := by decide +kernel
theorem dX5_plain_18 : decode cX5_plain 18 = .ok (.aload_n 0, 1) := by decide +kernel
theorem dX5_plain_19 : decode cX5_plain 19 = .ok (.getfield 41, 3) := by decide +kernel
theorem dX5_plain_22 : decode cX5_plain 22 = .ok (.iload_n 2, 1) := by decide +kernel
theorem dX5_plain_23 : decode cX5_plain 23 = .ok (.iaload, 1) := by decide +kernel
theorem dX5_plain_24 : decode cX5_plain 24 = .ok (.iastore, 1) := by decide +kernel
theorem dX5_plain_25 : decode cX5_plain 25 = .ok (.iinc 2 1, 3) := by decide +kernel
theorem dX5_plain_28 : decode cX5_plain 28 = .ok (.goto (-26), 3) := by decide +kernel
theorem dX5_plain_31 : decode cX5_plain 31 = .ok (.return_, 1) := by decide +kernel
theorem dX5_in_0 : decode cX5_in 0 = .ok (.lload_n 0, 1) := by decide +kernel
theorem dX5_in_1 : decode cX5_in 1 = .ok (.lload_n 2, 1) := by decide +kernel
theorem dX5_in_2 : decode cX5_in 2 = .ok (.lcmp, 1) := by decide +kernel
theorem dX5_in_3 : decode cX5_in 3 = .ok (.ifCond .lt 14, 3) := by decide +kernel
theorem dX5_in_6 : decode cX5_in 6 = .ok (.lload_n 0, 1) := by decide +kernel
theorem dX5_in_7 : decode cX5_in 7 = .ok (.lload 4, 2) := by decide +kernel
theorem dX5_in_9 : decode cX5_in 9 = .ok (.lcmp, 1) := by decide +kernel
theorem dX5_in_10 : decode cX5_in 10 = .ok (.ifCond .gt 7, 3) := by decide +kernel
theorem dX5_in_13 : decode cX5_in 13 = .ok (.iconst 1, 1) := by decide +kernel
theorem dX5_in_14 : decode cX5_in 14 = .ok (.goto 4, 3) := by decide +kernel
theorem dX5_in_17 : decode cX5_in 17 = .ok (.iconst 0, 1) := by decide +kernel
theorem dX5_in_18 : decode cX5_in 18 = .ok (.ireturn, 1) := by decide +kernel
theorem dX5_turned_0 : decode cX5_turned 0 = .ok (.iload_n 0, 1) := by decide +kernel
theorem dX5_turned_1 : decode cX5_turned 1 = .ok (.iload_n 1, 1) := by decide +kernel
theorem dX5_turned_2 : decode cX5_turned 2 = .ok (.iushr, 1) := by decide +kernel
theorem dX5_turned_3 : decode cX5_turned 3 = .ok (.iload_n 0, 1) := by decide +kernel
theorem dX5_turned_4 : decode cX5_turned 4 = .ok (.bipush 32, 2) := by decide +kernel
theorem dX5_turned_6 : decode cX5_turned 6 = .ok (.iload_n 1, 1) := by decide +kernel
theorem dX5_turned_7 : decode cX5_turned 7 = .ok (.isub, 1) := by decide +kernel
theorem dX5_turned_8 : decode cX5_turned 8 = .ok (.ishl, 1) := by decide +kernel
theorem dX5_turned_9 : decode cX5_turned 9 = .ok (.ior, 1) := by decide +kernel
theorem dX5_turned_10 : decode cX5_turned 10 = .ok (.ireturn, 1) := by decide +kernel
set_option maxRecDepth 20000 in
theorem ggX5_turn_X5_turned : GoodIn wsX5_turn wsX5_turned := goodIn_r _ [6] (by decide +kernel) (by decide +kernel)
set_option maxRecDepth 20000 in
theorem gX5_turn_X5_turned : GoodIn wsX5_turn (va_wsS RX5 88 yX5_turned wsX5_turned) := goodIn_app (goodIn_of _ (by decide +kernel)) ggX5_turn_X5_turned
theorem dX5_turn_0 : decode cX5_turn 0 = .ok (.aload_n 0, 1) := by decide +kernel
theorem dX5_turn_1 : decode cX5_turn 1 = .ok (.getfield 53, 3) := by decide +kernel
theorem dX5_turn_4 : decode cX5_turn 4 = .ok (.iload_n 1, 1) := by decide +kernel
theorem dX5_turn_5 : decode cX5_turn 5 = .ok (.dup2, 1) := by decide +kernel
theorem dX5_turn_6 : decode cX5_turn 6 = .ok (.iaload, 1) := by decide +kernel
theorem dX5_turn_7 : decode cX5_turn 7 = .ok (.aload_n 0, 1) := by decide +kernel
theorem dX5_turn_8 : decode cX5_turn 8 = .ok (.getfield 53, 3) := by decide +kernel
theorem dX5_turn_11 : decode cX5_turn 11 = .ok (.iload_n 2, 1) := by decide +kernel
theorem dX5_turn_12 : decode cX5_turn 12 = .ok (.iaload, 1) := by decide +kernel
theorem dX5_turn_13 : decode cX5_turn 13 = .ok (.aload_n 0, 1) := by decide +kernel
theorem dX5_turn_14 : decode cX5_turn 14 = .ok (.getfield 56, 3) := by decide +kernel
theorem dX5_turn_17 : decode cX5_turn 17 = .ok (.iload 5, 2) := by decide +kernel
theorem dX5_turn_19 : decode cX5_turn 19 = .ok (.iaload, 1) := by decide +kernel
theorem dX5_turn_20 : decode cX5_turn 20 = .ok (.iadd, 1) := by decide +kernel
theorem dX5_turn_21 : decode cX5_turn 21 = .ok (.iadd, 1) := by decide +kernel
theorem dX5_turn_22 : decode cX5_turn 22 = .ok (.iastore, 1) := by decide +kernel
theorem dX5_turn_23 : decode cX5_turn 23 = .ok (.aload_n 0, 1) := by decide +kernel
theorem dX5_turn_24 : decode cX5_turn 24 = .ok (.getfield 53, 3) := by decide +kernel
theorem dX5_turn_27 : decode cX5_turn 27 = .ok (.iload 4, 2) := by decide +kernel
theorem dX5_turn_29 : decode cX5_turn 29 = .ok (.aload_n 0, 1) := by decide +kernel
theorem dX5_turn_30 : decode cX5_turn 30 = .ok (.getfield 53, 3) := by decide +kernel
theorem dX5_turn_33 : decode cX5_turn 33 = .ok (.iload 4, 2) := by decide +kernel
theorem dX5_turn_35 : decode cX5_turn 35 = .ok (.iaload, 1) := by decide +kernel
theorem dX5_turn_36 : decode cX5_turn 36 = .ok (.aload_n 0, 1) := by decide +kernel
theorem dX5_turn_37 : decode cX5_turn 37 = .ok (.getfield 53, 3) := by decide +kernel
theorem dX5_turn_40 : decode cX5_turn 40 = .ok (.iload_n 1, 1) := by decide +kernel
theorem dX5_turn_41 : decode cX5_turn 41 = .ok (.iaload, 1) := by decide +kernel
theorem dX5_turn_42 : decode cX5_turn 42 = .ok (.ixor, 1) := by decide +kernel
theorem dX5_turn_43 : decode cX5_turn 43 = .ok (.bipush 16, 2) := by decide +kernel
theorem dX5_turn_45 : decode cX5_turn 45 = .ok (.invokestatic 88, 3) := by decide +kernel
theorem dX5_turn_48 : decode cX5_turn 48 = .ok (.iastore, 1) := by decide +kernel
theorem dX5_turn_49 : decode cX5_turn 49 = .ok (.aload_n 0, 1) := by decide +kernel
theorem dX5_turn_50 : decode cX5_turn 50 = .ok (.getfield 53, 3) := by decide +kernel
theorem dX5_turn_53 : decode cX5_turn 53 = .ok (.iload_n 3, 1) := by decide +kernel
theorem dX5_turn_54 : decode cX5_turn 54 = .ok (.dup2, 1) := by decide +kernel
theorem dX5_turn_55 : decode cX5_turn 55 = .ok (.iaload, 1) := by decide +kernel
theorem dX5_turn_56 : decode cX5_turn 56 = .ok (.aload_n 0, 1) := by decide +kernel
theorem dX5_turn_57 : decode cX5_turn 57 = .ok (.getfield 53, 3) := by decide +kernel
theorem dX5_turn_60 : decode cX5_turn 60 = .ok (.iload 4, 2) := by decide +kernel
theorem dX5_turn_62 : decode cX5_turn 62 = .ok (.iaload, 1) := by decide +kernel
theorem dX5_turn_63 : decode cX5_turn 63 = .ok (.iadd, 1) := by decide +kernel
theorem dX5_turn_64 : decode cX5_turn 64 = .ok (.iastore, 1) := by decide +kernel
theorem dX5_turn_65 : decode cX5_turn 65 = .ok (.aload_n 0, 1) := by decide +kernel
theorem dX5_turn_66 : decode cX5_turn 66 = .ok (.getfield 53, 3) := by decide +kernel
theorem dX5_turn_69 : decode cX5_turn 69 = .ok (.iload_n 2, 1) := by decide +kernel
theorem dX5_turn_70 : decode cX5_turn 70 = .ok (.aload_n 0, 1) := by decide +kernel
theorem dX5_turn_71 : decode cX5_turn 71 = .ok (.getfield 53, 3) := by decide +kernel
theorem dX5_turn_74 : decode cX5_turn 74 = .ok (.iload_n 2, 1) := by decide +kernel
theorem dX5_turn_75 : decode cX5_turn 75 = .ok (.iaload, 1) := by decide +kernel
theorem dX5_turn_76 : decode cX5_turn 76 = .ok (.aload_n 0, 1) := by decide +kernel
theorem dX5_turn_77 : decode cX5_turn 77 = .ok (.getfield 53, 3) := by decide +kernel
theorem dX5_turn_80 : decode cX5_turn 80 = .ok (.iload_n 3, 1) := by decide +kernel
theorem dX5_turn_81 : decode cX5_turn 81 = .ok (.iaload, 1) := by decide +kernel
theorem dX5_turn_82 : decode cX5_turn 82 = .ok (.ixor, 1) := by decide +kernel
theorem dX5_turn_83 : decode cX5_turn 83 = .ok (.bipush 12, 2) := by decide +kernel
theorem dX5_turn_85 : decode cX5_turn 85 = .ok (.invokestatic 88, 3) := by decide +kernel
theorem dX5_turn_88 : decode cX5_turn 88 = .ok (.iastore, 1) := by decide +kernel
theorem dX5_turn_89 : decode cX5_turn 89 = .ok (.aload_n 0, 1) := by decide +kernel
theorem dX5_turn_90 : decode cX5_turn 90 = .ok (.getfield 53, 3) := by decide +kernel
theorem dX5_turn_93 : decode cX5_turn 93 = .ok (.iload_n 1, 1) := by decide +kernel
theorem dX5_turn_94 : decode cX5_turn 94 = .ok (.dup2, 1) := by decide +kernel
theorem dX5_turn_95 : decode cX5_turn 95 = .ok (.iaload, 1) := by decide +kernel
theorem dX5_turn_96 : decode cX5_turn 96 = .ok (.aload_n 0, 1) := by decide +kernel
theorem dX5_turn_97 : decode cX5_turn 97 = .ok (.getfield 53, 3) := by decide +kernel
theorem dX5_turn_100 : decode cX5_turn 100 = .ok (.iload_n 2, 1) := by decide +kernel
theorem dX5_turn_101 : decode cX5_turn 101 = .ok (.iaload, 1) := by decide +kernel
theorem dX5_turn_102 : decode cX5_turn 102 = .ok (.aload_n 0, 1) := by decide +kernel
theorem dX5_turn_103 : decode cX5_turn 103 = .ok (.getfield 56, 3) := by decide +kernel
theorem dX5_turn_106 : decode cX5_turn 106 = .ok (.iload 5, 2) := by decide +kernel
theorem dX5_turn_108 : decode cX5_turn 108 = .ok (.iconst 1, 1) := by decide +kernel
theorem dX5_turn_109 : decode cX5_turn 109 = .ok (.iadd, 1) := by decide +kernel
theorem dX5_turn_110 : decode cX5_turn 110 = .ok (.iaload, 1) := by decide +kernel
theorem dX5_turn_111 : decode cX5_turn 111 = .ok (.iadd, 1) := by decide +kernel
theorem dX5_turn_112 : decode cX5_turn 112 = .ok (.iadd, 1) := by decide +kernel
theorem dX5_turn_113 : decode cX5_turn 113 = .ok (.iastore, 1) := by decide +kernel
theorem dX5_turn_114 : decode cX5_turn 114 = .ok (.aload_n 0, 1) := by decide +kernel
theorem dX5_turn_115 : decode cX5_turn 115 = .ok (.getfield 53, 3) := by decide +kernel
theorem dX5_turn_118 : decode cX5_turn 118 = .ok (.iload 4, 2) := by decide +kernel
theorem dX5_turn_120 : decode cX5_turn 120 = .ok (.aload_n 0, 1) := by decide +kernel
theorem dX5_turn_121 : decode cX5_turn 121 = .ok (.getfield 53, 3) := by decide +kernel
theorem dX5_turn_124 : decode cX5_turn 124 = .ok (.iload 4, 2) := by decide +kernel
theorem dX5_turn_126 : decode cX5_turn 126 = .ok (.iaload, 1) := by decide +kernel
theorem dX5_turn_127 : decode cX5_turn 127 = .ok (.aload_n 0, 1) := by decide +kernel
theorem dX5_turn_128 : decode cX5_turn 128 = .ok (.getfield 53, 3) := by decide +kernel
theorem dX5_turn_131 : decode cX5_turn 131 = .ok (.iload_n 1, 1) := by decide +kernel
theorem dX5_turn_132 : decode cX5_turn 132 = .ok (.iaload, 1) := by decide +kernel
theorem dX5_turn_133 : decode cX5_turn 133 = .ok (.ixor, 1) := by decide +kernel
theorem dX5_turn_134 : decode cX5_turn 134 = .ok (.bipush 8, 2) := by decide +kernel
theorem dX5_turn_136 : decode cX5_turn 136 = .ok (.invokestatic 88, 3) := by decide +kernel
theorem dX5_turn_139 : decode cX5_turn 139 = .ok (.iastore, 1) := by decide +kernel
theorem dX5_turn_140 : decode cX5_turn 140 = .ok (.aload_n 0, 1) := by decide +kernel
theorem dX5_turn_141 : decode cX5_turn 141 = .ok (.getfield 53, 3) := by decide +kernel
theorem dX5_turn_144 : decode cX5_turn 144 = .ok (.iload_n 3, 1) := by decide +kernel
theorem dX5_turn_145 : decode cX5_turn 145 = .ok (.dup2, 1) := by decide +kernel
theorem dX5_turn_146 : decode cX5_turn 146 = .ok (.iaload, 1) := by decide +kernel
theorem dX5_turn_147 : decode cX5_turn 147 = .ok (.aload_n 0, 1) := by decide +kernel
theorem dX5_turn_148 : decode cX5_turn 148 = .ok (.getfield 53, 3) := by decide +kernel
theorem dX5_turn_151 : decode cX5_turn 151 = .ok (.iload 4, 2) := by decide +kernel
theorem dX5_turn_153 : decode cX5_turn 153 = .ok (.iaload, 1) := by decide +kernel
theorem dX5_turn_154 : decode cX5_turn 154 = .ok (.iadd, 1) := by decide +kernel
theorem dX5_turn_155 : decode cX5_turn 155 = .ok (.iastore, 1) := by decide +kernel
theorem dX5_turn_156 : decode cX5_turn 156 = .ok (.aload_n 0, 1) := by decide +kernel
theorem dX5_turn_157 : decode cX5_turn 157 = .ok (.getfield 53, 3) := by decide +kernel
theorem dX5_turn_160 : decode cX5_turn 160 = .ok (.iload_n 2, 1) := by decide +kernel
theorem dX5_turn_161 : decode cX5_turn 161 = .ok (.aload_n 0, 1) := by decide +kernel
theorem dX5_turn_162 : decode cX5_turn 162 = .ok (.getfield 53, 3) := by decide +kernel
theorem dX5_turn_165 : decode cX5_turn 165 = .ok (.iload_n 2, 1) := by decide +kernel
theorem dX5_turn_166 : decode cX5_turn 166 = .ok (.iaload, 1) := by decide +kernel
theorem dX5_turn_167 : decode cX5_turn 167 = .ok (.aload_n 0, 1) := by decide +kernel
theorem dX5_turn_168 : decode cX5_turn 168 = .ok (.getfield 53, 3) := by decide +kernel
theorem dX5_turn_171 : decode cX5_turn 171 = .ok (.iload_n 3, 1) := by decide +kernel
theorem dX5_turn_172 : decode cX5_turn 172 = .ok (.iaload, 1) := by decide +kernel
theorem dX5_turn_173 : decode cX5_turn 173 = .ok (.ixor, 1) := by decide +kernel
theorem dX5_turn_174 : decode cX5_turn 174 = .ok (.bipush 7, 2) := by decide +kernel
theorem dX5_turn_176 : decode cX5_turn 176 = .ok (.invokestatic 88, 3) := by decide +kernel
theorem dX5_turn_179 : decode cX5_turn 179 = .ok (.iastore, 1) := by decide +kernel
theorem dX5_turn_180 : decode cX5_turn 180 = .ok (.return_, 1) := by decide +kernel
set_option maxRecDepth 20000 in
theorem ggX5_mix_X5_turn : GoodIn wsX5_mix wsX5_turn := goodIn_r _ [13, 1, 5, 14, 15, 12, 16, 17, 18, 19, 20, 21, 22, 23, 24, 25, 26, 27, 28, 29, 30, 31, 32, 33, 34, 35, 36, 37, 38, 39, 40, 41, 42, 43, 44] (by decide +kernel) (by decide +kernel)
set_option maxRecDepth 20000 in
theorem gX5_mix_X5_turn : GoodIn wsX5_mix (wsV RX5 96 RX5 yX5_turn wsX5_turn) := goodIn_app (goodIn_of _ (by decide +kernel)) ggX5_mix_X5_turn
theorem dX5_mix_0 : decode cX5_mix 0 = .ok (.iconst 0, 1) := by decide +kernel
theorem dX5_mix_1 : decode cX5_mix 1 = .ok (.istore 4, 2) := by decide +kernel
theorem dX5_mix_3 : decode cX5_mix 3 = .ok (.iload 4, 2) := by decide +kernel
theorem dX5_mix_5 : decode cX5_mix 5 = .ok (.bipush 8, 2) := by decide +kernel
theorem dX5_mix_7 : decode cX5_mix 7 = .ok (.if_icmp .ge 50, 3) := by decide +kernel
theorem dX5_mix_10 : decode cX5_mix 10 = .ok (.aload_n 0, 1) := by decide +kernel
theorem dX5_mix_11 : decode cX5_mix 11 = .ok (.getfield 53, 3) := by decide +kernel
theorem dX5_mix_14 : decode cX5_mix 14 = .ok (.iload 4, 2) := by decide +kernel
theorem dX5_mix_16 : decode cX5_mix 16 = .ok (.aload_n 0, 1) := by decide +kernel
theorem dX5_mix_17 : decode cX5_mix 17 = .ok (.getfield 47, 3) := by decide +kernel
theorem dX5_mix_20 : decode cX5_mix 20 = .ok (.iload 4, 2) := by decide +kernel
theorem dX5_mix_22 : decode cX5_mix 22 = .ok (.iaload, 1) := by decide +kernel
theorem dX5_mix_23 : decode cX5_mix 23 = .ok (.iastore, 1) := by decide +kernel
theorem dX5_mix_24 : decode cX5_mix 24 = .ok (.aload_n 0, 1) := by decide +kernel
theorem dX5_mix_25 : decode cX5_mix 25 = .ok (.getfield 53, 3) := by decide +kernel
theorem dX5_mix_28 : decode cX5_mix 28 = .ok (.bipush 8, 2) := by decide +kernel
theorem dX5_mix_30 : decode cX5_mix 30 = .ok (.iload 4, 2) := by decide +kernel
theorem dX5_mix_32 : decode cX5_mix 32 = .ok (.iadd, 1) := by decide +kernel
theorem dX5_mix_33 : decode cX5_mix 33 = .ok (.iload 4, 2) := by decide +kernel
theorem dX5_mix_35 : decode cX5_mix 35 = .ok (.iconst 4, 1) := by decide +kernel
theorem dX5_mix_36 : decode cX5_mix 36 = .ok (.if_icmp .ge 13, 3) := by decide +kernel
theorem dX5_mix_39 : decode cX5_mix 39 = .ok (.aload_n 0, 1) := by decide +kernel
theorem dX5_mix_40 : decode cX5_mix 40 = .ok (.getfield 41, 3) := by decide +kernel
theorem dX5_mix_43 : decode cX5_mix 43 = .ok (.iload 4, 2) := by decide +kernel
theorem dX5_mix_45 : decode cX5_mix 45 = .ok (.iaload, 1) := by decide +kernel
theorem dX5_mix_46 : decode cX5_mix 46 = .ok (.goto 4, 3) := by decide +kernel
theorem dX5_mix_49 : decode cX5_mix 49 = .ok (.iconst 0, 1) := by decide +kernel
theorem dX5_mix_50 : decode cX5_mix 50 = .ok (.iastore, 1) := by decide +kernel
theorem dX5_mix_51 : decode cX5_mix 51 = .ok (.iinc 4 1, 3) := by decide +kernel
theorem dX5_mix_54 : decode cX5_mix 54 = .ok (.goto (-51), 3) := by decide +kernel
theorem dX5_mix_57 : decode cX5_mix 57 = .ok (.aload_n 0, 1) := by decide +kernel
theorem dX5_mix_58 : decode cX5_mix 58 = .ok (.getfield 53, 3) := by decide +kernel
theorem dX5_mix_61 : decode cX5_mix 61 = .ok (.bipush 12, 2) := by decide +kernel
theorem dX5_mix_63 : decode cX5_mix 63 = .ok (.lload_n 1, 1) := by decide +kernel
theorem dX5_mix_64 : decode cX5_mix 64 = .ok (.l2i, 1) := by decide +kernel
theorem dX5_mix_65 : decode cX5_mix 65 = .ok (.iastore, 1) := by decide +kernel
theorem dX5_mix_66 : decode cX5_mix 66 = .ok (.aload_n 0, 1) := by decide +kernel
theorem dX5_mix_67 : decode cX5_mix 67 = .ok (.getfield 53, 3) := by decide +kernel
theorem dX5_mix_70 : decode cX5_mix 70 = .ok (.bipush 13, 2) := by decide +kernel
theorem dX5_mix_72 : decode cX5_mix 72 = .ok (.lload_n 1, 1) := by decide +kernel
theorem dX5_mix_73 : decode cX5_mix 73 = .ok (.bipush 32, 2) := by decide +kernel
theorem dX5_mix_75 : decode cX5_mix 75 = .ok (.lshr, 1) := by decide +kernel
theorem dX5_mix_76 : decode cX5_mix 76 = .ok (.l2i, 1) := by decide +kernel
theorem dX5_mix_77 : decode cX5_mix 77 = .ok (.iastore, 1) := by decide +kernel
theorem dX5_mix_78 : decode cX5_mix 78 = .ok (.aload_n 0, 1) := by decide +kernel
theorem dX5_mix_79 : decode cX5_mix 79 = .ok (.getfield 53, 3) := by decide +kernel
theorem dX5_mix_82 : decode cX5_mix 82 = .ok (.bipush 14, 2) := by decide +kernel
theorem dX5_mix_84 : decode cX5_mix 84 = .ok (.aload_n 0, 1) := by decide +kernel
theorem dX5_mix_85 : decode cX5_mix 85 = .ok (.getfield 92, 3) := by decide +kernel
theorem dX5_mix_88 : decode cX5_mix 88 = .ok (.iastore, 1) := by decide +kernel
theorem dX5_mix_89 : decode cX5_mix 89 = .ok (.aload_n 0, 1) := by decide +kernel
theorem dX5_mix_90 : decode cX5_mix 90 = .ok (.getfield 53, 3) := by decide +kernel
theorem dX5_mix_93 : decode cX5_mix 93 = .ok (.bipush 15, 2) := by decide +kernel
theorem dX5_mix_95 : decode cX5_mix 95 = .ok (.iload_n 3, 1) := by decide +kernel
theorem dX5_mix_96 : decode cX5_mix 96 = .ok (.iastore, 1) := by decide +kernel
theorem dX5_mix_97 : decode cX5_mix 97 = .ok (.iconst 0, 1) := by decide +kernel
theorem dX5_mix_98 : decode cX5_mix 98 = .ok (.istore 4, 2) := by decide +kernel
theorem dX5_mix_100 : decode cX5_mix 100 = .ok (.iload 4, 2) := by decide +kernel
theorem dX5_mix_102 : decode cX5_mix 102 = .ok (.bipush 16, 2) := by decide +kernel
theorem dX5_mix_104 : decode cX5_mix 104 = .ok (.if_icmp .ge 23, 3) := by decide +kernel
theorem dX5_mix_107 : decode cX5_mix 107 = .ok (.aload_n 0, 1) := by decide +kernel
theorem dX5_mix_108 : decode cX5_mix 108 = .ok (.getfield 56, 3) := by decide +kernel
theorem dX5_mix_111 : decode cX5_mix 111 = .ok (.iload 4, 2) := by decide +kernel
theorem dX5_mix_113 : decode cX5_mix 113 = .ok (.aload_n 0, 1) := by decide +kernel
theorem dX5_mix_114 : decode cX5_mix 114 = .ok (.getfield 50, 3) := by decide +kernel
theorem dX5_mix_117 : decode cX5_mix 117 = .ok (.iload 4, 2) := by decide +kernel
theorem dX5_mix_119 : decode cX5_mix 119 = .ok (.iaload, 1) := by decide +kernel
theorem dX5_mix_120 : decode cX5_mix 120 = .ok (.iastore, 1) := by decide +kernel
theorem dX5_mix_121 : decode cX5_mix 121 = .ok (.iinc 4 1, 3) := by decide +kernel
theorem dX5_mix_124 : decode cX5_mix 124 = .ok (.goto (-24), 3) := by decide +kernel
theorem dX5_mix_127 : decode cX5_mix 127 = .ok (.iconst 0, 1) := by decide +kernel
theorem dX5_mix_128 : decode cX5_mix 128 = .ok (.istore 4, 2) := by decide +kernel
theorem dX5_mix_130 : decode cX5_mix 130 = .ok (.iload 4, 2) := by decide +kernel
theorem dX5_mix_132 : decode cX5_mix 132 = .ok (.bipush 7, 2) := by decide +kernel
theorem dX5_mix_134 : decode cX5_mix 134 = .ok (.if_icmp .ge 167, 3) := by decide +kernel
theorem dX5_mix_137 : decode cX5_mix 137 = .ok (.iconst 0, 1) := by decide +kernel
theorem dX5_mix_138 : decode cX5_mix 138 = .ok (.istore 5, 2) := by decide +kernel
theorem dX5_mix_140 : decode cX5_mix 140 = .ok (.iload 5, 2) := by decide +kernel
theorem dX5_mix_142 : decode cX5_mix 142 = .ok (.iconst 4, 1) := by decide +kernel
theorem dX5_mix_143 : decode cX5_mix 143 = .ok (.if_icmp .ge 33, 3) := by decide +kernel
theorem dX5_mix_146 : decode cX5_mix 146 = .ok (.aload_n 0, 1) := by decide +kernel
theorem dX5_mix_147 : decode cX5_mix 147 = .ok (.iload 5, 2) := by decide +kernel
theorem dX5_mix_149 : decode cX5_mix 149 = .ok (.iconst 4, 1) := by decide +kernel
theorem dX5_mix_150 : decode cX5_mix 150 = .ok (.iload 5, 2) := by decide +kernel
theorem dX5_mix_152 : decode cX5_mix 152 = .ok (.iadd, 1) := by decide +kernel
theorem dX5_mix_153 : decode cX5_mix 153 = .ok (.bipush 8, 2) := by decide +kernel
theorem dX5_mix_155 : decode cX5_mix 155 = .ok (.iload 5, 2) := by decide +kernel
theorem dX5_mix_157 : decode cX5_mix 157 = .ok (.iadd, 1) := by decide +kernel
theorem dX5_mix_158 : decode cX5_mix 158 = .ok (.bipush 12, 2) := by decide +kernel
theorem dX5_mix_160 : decode cX5_mix 160 = .ok (.iload 5, 2) := by decide +kernel
theorem dX5_mix_162 : decode cX5_mix 162 = .ok (.iadd, 1) := by decide +kernel
theorem dX5_mix_163 : decode cX5_mix 163 = .ok (.iconst 2, 1) := by decide +kernel
theorem dX5_mix_164 : decode cX5_mix 164 = .ok (.iload 5, 2) := by decide +kernel
theorem dX5_mix_166 : decode cX5_mix 166 = .ok (.imul, 1) := by decide +kernel
theorem dX5_mix_167 : decode cX5_mix 167 = .ok (.invokevirtual 96, 3) := by decide +kernel
theorem dX5_mix_170 : decode cX5_mix 170 = .ok (.iinc 5 1, 3) := by decide +kernel
theorem dX5_mix_173 : decode cX5_mix 173 = .ok (.goto (-33), 3) := by decide +kernel
theorem dX5_mix_176 : decode cX5_mix 176 = .ok (.iconst 0, 1) := by decide +kernel
theorem dX5_mix_177 : decode cX5_mix 177 = .ok (.istore 5, 2) := by decide +kernel
theorem dX5_mix_179 : decode cX5_mix 179 = .ok (.iload 5, 2) := by decide +kernel
theorem dX5_mix_181 : decode cX5_mix 181 = .ok (.iconst 4, 1) := by decide +kernel
theorem dX5_mix_182 : decode cX5_mix 182 = .ok (.if_icmp .ge 48, 3) := by decide +kernel
theorem dX5_mix_185 : decode cX5_mix 185 = .ok (.aload_n 0, 1) := by decide +kernel
theorem dX5_mix_186 : decode cX5_mix 186 = .ok (.iload 5, 2) := by decide +kernel
theorem dX5_mix_188 : decode cX5_mix 188 = .ok (.iconst 4, 1) := by decide +kernel
theorem dX5_mix_189 : decode cX5_mix 189 = .ok (.iload 5, 2) := by decide +kernel
theorem dX5_mix_191 : decode cX5_mix 191 = .ok (.iconst 1, 1) := by decide +kernel
theorem dX5_mix_192 : decode cX5_mix 192 = .ok (.iadd, 1) := by decide +kernel
theorem dX5_mix_193 : decode cX5_mix 193 = .ok (.iconst 4, 1) := by decide +kernel
theorem dX5_mix_194 : decode cX5_mix 194 = .ok (.irem, 1) := by decide +kernel
theorem dX5_mix_195 : decode cX5_mix 195 = .ok (.iadd, 1) := by decide +kernel
theorem dX5_mix_196 : decode cX5_mix 196 = .ok (.bipush 8, 2) := by decide +kernel
theorem dX5_mix_198 : decode cX5_mix 198 = .ok (.iload 5, 2) := by decide +kernel
theorem dX5_mix_200 : decode cX5_mix 200 = .ok (.iconst 2, 1) := by decide +kernel
theorem dX5_mix_201 : decode cX5_mix 201 = .ok (.iadd, 1) := by decide +kernel
theorem dX5_mix_202 : decode cX5_mix 202 = .ok (.iconst 4, 1) := by decide +kernel
theorem dX5_mix_203 : decode cX5_mix 203 = .ok (.irem, 1) := by decide +kernel
theorem dX5_mix_204 : decode cX5_mix 204 = .ok (.iadd, 1) := by decide +kernel
theorem dX5_mix_205 : decode cX5_mix 205 = .ok (.bipush 12, 2) := by decide +kernel
theorem dX5_mix_207 : decode cX5_mix 207 = .ok (.iload 5, 2) := by decide +kernel
theorem dX5_mix_209 : decode cX5_mix 209 = .ok (.iconst 3, 1) := by decide +kernel
theorem dX5_mix_210 : decode cX5_mix 210 = .ok (.iadd, 1) := by decide +kernel
theorem dX5_mix_211 : decode cX5_mix 211 = .ok (.iconst 4, 1) := by decide +kernel
theorem dX5_mix_212 : decode cX5_mix 212 = .ok (.irem, 1) := by decide +kernel
theorem dX5_mix_213 : decode cX5_mix 213 = .ok (.iadd, 1) := by decide +kernel
theorem dX5_mix_214 : decode cX5_mix 214 = .ok (.bipush 8, 2) := by decide +kernel
theorem dX5_mix_216 : decode cX5_mix 216 = .ok (.iconst 2, 1) := by decide +kernel
theorem dX5_mix_217 : decode cX5_mix 217 = .ok (.iload 5, 2) := by decide +kernel
theorem dX5_mix_219 : decode cX5_mix 219 = .ok (.imul, 1) := by decide +kernel
theorem dX5_mix_220 : decode cX5_mix 220 = .ok (.iadd, 1) := by decide +kernel
theorem dX5_mix_221 : decode cX5_mix 221 = .ok (.invokevirtual 96, 3) := by decide +kernel
theorem dX5_mix_224 : decode cX5_mix 224 = .ok (.iinc 5 1, 3) := by decide +kernel
theorem dX5_mix_227 : decode cX5_mix 227 = .ok (.goto (-48), 3) := by decide +kernel
theorem dX5_mix_230 : decode cX5_mix 230 = .ok (.iconst 0, 1) := by decide +kernel
theorem dX5_mix_231 : decode cX5_mix 231 = .ok (.istore 5, 2) := by decide +kernel
theorem dX5_mix_233 : decode cX5_mix 233 = .ok (.iload 5, 2) := by decide +kernel
theorem dX5_mix_235 : decode cX5_mix 235 = .ok (.bipush 16, 2) := by decide +kernel
theorem dX5_mix_237 : decode cX5_mix 237 = .ok (.if_icmp .ge 23, 3) := by decide +kernel
theorem dX5_mix_240 : decode cX5_mix 240 = .ok (.aload_n 0, 1) := by decide +kernel
theorem dX5_mix_241 : decode cX5_mix 241 = .ok (.getfield 59, 3) := by decide +kernel
theorem dX5_mix_244 : decode cX5_mix 244 = .ok (.iload 5, 2) := by decide +kernel
theorem dX5_mix_246 : decode cX5_mix 246 = .ok (.aload_n 0, 1) := by decide +kernel
theorem dX5_mix_247 : decode cX5_mix 247 = .ok (.getfield 56, 3) := by decide +kernel
theorem dX5_mix_250 : decode cX5_mix 250 = .ok (.iload 5, 2) := by decide +kernel
theorem dX5_mix_252 : decode cX5_mix 252 = .ok (.iaload, 1) := by decide +kernel
theorem dX5_mix_253 : decode cX5_mix 253 = .ok (.iastore, 1) := by decide +kernel
theorem dX5_mix_254 : decode cX5_mix 254 = .ok (.iinc 5 1, 3) := by decide +kernel
theorem dX5_mix_257 : decode cX5_mix 257 = .ok (.goto (-24), 3) := by decide +kernel
theorem dX5_mix_260 : decode cX5_mix 260 = .ok (.iconst 0, 1) := by decide +kernel
theorem dX5_mix_261 : decode cX5_mix 261 = .ok (.istore 5, 2) := by decide +kernel
theorem dX5_mix_263 : decode cX5_mix 263 = .ok (.iload 5, 2) := by decide +kernel
theorem dX5_mix_265 : decode cX5_mix 265 = .ok (.bipush 16, 2) := by decide +kernel
theorem dX5_mix_267 : decode cX5_mix 267 = .ok (.if_icmp .ge 28, 3) := by decide +kernel
theorem dX5_mix_270 : decode cX5_mix 270 = .ok (.aload_n 0, 1) := by decide +kernel
theorem dX5_mix_271 : decode cX5_mix 271 = .ok (.getfield 56, 3) := by decide +kernel
theorem dX5_mix_274 : decode cX5_mix 274 = .ok (.iload 5, 2) := by decide +kernel
theorem dX5_mix_276 : decode cX5_mix 276 = .ok (.aload_n 0, 1) := by decide +kernel
theorem dX5_mix_277 : decode cX5_mix 277 = .ok (.getfield 59, 3) := by decide +kernel
theorem dX5_mix_280 : decode cX5_mix 280 = .ok (.aload_n 0, 1) := by decide +kernel
theorem dX5_mix_281 : decode cX5_mix 281 = .ok (.getfield 62, 3) := by decide +kernel
theorem dX5_mix_284 : decode cX5_mix 284 = .ok (.iload 5, 2) := by decide +kernel
theorem dX5_mix_286 : decode cX5_mix 286 = .ok (.iaload, 1) := by decide +kernel
theorem dX5_mix_287 : decode cX5_mix 287 = .ok (.iaload, 1) := by decide +kernel
theorem dX5_mix_288 : decode cX5_mix 288 = .ok (.iastore, 1) := by decide +kernel
theorem dX5_mix_289 : decode cX5_mix 289 = .ok (.iinc 5 1, 3) := by decide +kernel
theorem dX5_mix_292 : decode cX5_mix 292 = .ok (.goto (-29), 3) := by decide +kernel
theorem dX5_mix_295 : decode cX5_mix 295 = .ok (.iinc 4 1, 3) := by decide +kernel
theorem dX5_mix_298 : decode cX5_mix 298 = .ok (.goto (-168), 3) := by decide +kernel
theorem dX5_mix_301 : decode cX5_mix 301 = .ok (.iconst 0, 1) := by decide +kernel
theorem dX5_mix_302 : decode cX5_mix 302 = .ok (.istore 4, 2) := by decide +kernel
theorem dX5_mix_304 : decode cX5_mix 304 = .ok (.iload 4, 2) := by decide +kernel
theorem dX5_mix_306 : decode cX5_mix 306 = .ok (.bipush 8, 2) := by decide +kernel
theorem dX5_mix_308 : decode cX5_mix 308 = .ok (.if_icmp .ge 49, 3) := by decide +kernel
theorem dX5_mix_311 : decode cX5_mix 311 = .ok (.aload_n 0, 1) := by decide +kernel
theorem dX5_mix_312 : decode cX5_mix 312 = .ok (.getfield 53, 3) := by decide +kernel
theorem dX5_mix_315 : decode cX5_mix 315 = .ok (.iload 4, 2) := by decide +kernel
theorem dX5_mix_317 : decode cX5_mix 317 = .ok (.dup2, 1) := by decide +kernel
theorem dX5_mix_318 : decode cX5_mix 318 = .ok (.iaload, 1) := by decide +kernel
theorem dX5_mix_319 : decode cX5_mix 319 = .ok (.aload_n 0, 1) := by decide +kernel
theorem dX5_mix_320 : decode cX5_mix 320 = .ok (.getfield 53, 3) := by decide +kernel
theorem dX5_mix_323 : decode cX5_mix 323 = .ok (.bipush 8, 2) := by decide +kernel
theorem dX5_mix_325 : decode cX5_mix 325 = .ok (.iload 4, 2) := by decide +kernel
theorem dX5_mix_327 : decode cX5_mix 327 = .ok (.iadd, 1) := by decide +kernel
theorem dX5_mix_328 : decode cX5_mix 328 = .ok (.iaload, 1) := by decide +kernel
theorem dX5_mix_329 : decode cX5_mix 329 = .ok (.ixor, 1) := by decide +kernel
theorem dX5_mix_330 : decode cX5_mix 330 = .ok (.iastore, 1) := by decide +kernel
theorem dX5_mix_331 : decode cX5_mix 331 = .ok (.aload_n 0, 1) := by decide +kernel
theorem dX5_mix_332 : decode cX5_mix 332 = .ok (.getfield 53, 3) := by decide +kernel
theorem dX5_mix_335 : decode cX5_mix 335 = .ok (.bipush 8, 2) := by decide +kernel
theorem dX5_mix_337 : decode cX5_mix 337 = .ok (.iload 4, 2) := by decide +kernel
theorem dX5_mix_339 : decode cX5_mix 339 = .ok (.iadd, 1) := by decide +kernel
theorem dX5_mix_340 : decode cX5_mix 340 = .ok (.dup2, 1) := by decide +kernel
theorem dX5_mix_341 : decode cX5_mix 341 = .ok (.iaload, 1) := by decide +kernel
theorem dX5_mix_342 : decode cX5_mix 342 = .ok (.aload_n 0, 1) := by decide +kernel
theorem dX5_mix_343 : decode cX5_mix 343 = .ok (.getfield 47, 3) := by decide +kernel
theorem dX5_mix_346 : decode cX5_mix 346 = .ok (.iload 4, 2) := by decide +kernel
theorem dX5_mix_348 : decode cX5_mix 348 = .ok (.iaload, 1) := by decide +kernel
theorem dX5_mix_349 : decode cX5_mix 349 = .ok (.ixor, 1) := by decide +kernel
theorem dX5_mix_350 : decode cX5_mix 350 = .ok (.iastore, 1) := by decide +kernel
theorem dX5_mix_351 : decode cX5_mix 351 = .ok (.iinc 4 1, 3) := by decide +kernel
theorem dX5_mix_354 : decode cX5_mix 354 = .ok (.goto (-50), 3) := by decide +kernel
theorem dX5_mix_357 : decode cX5_mix 357 = .ok (.return_, 1) := by decide +kernel
set_option maxRecDepth 20000 in
theorem ggX5_mixIn_X5_mix : GoodIn wsX5_mixIn wsX5_mix := goodIn_r _ [9, 4, 3, 10, 11, 12, 13, 14, 15, 16, 17, 18, 8, 19, 20, 21, 22, 23, 24, 25, 26, 27, 28, 29, 30, 31, 32, 33, 34, 35, 36, 37, 38, 39, 40, 41, 42, 43, 44, 45, 46, 47, 48, 49, 50] (by decide +kernel) (by decide +kernel)
set_option maxRecDepth 20000 in
theorem gX5_mixIn_X5_mix : GoodIn wsX5_mixIn (wsV RX5 107 RX5 yX5_mix wsX5_mix) := goodIn_app (goodIn_of _ (by decide +kernel)) ggX5_mixIn_X5_mix
theorem dX5_mixIn_0 : decode cX5_mixIn 0 = .ok (.aload_n 0, 1) := by decide +kernel
theorem dX5_mixIn_1 : decode cX5_mixIn 1 = .ok (.aload_n 0, 1) := by decide +kernel
theorem dX5_mixIn_2 : decode cX5_mixIn 2 = .ok (.getfield 100, 3) := by decide +kernel
theorem dX5_mixIn_5 : decode cX5_mixIn 5 = .ok (.aload_n 0, 1) := by decide +kernel
theorem dX5_mixIn_6 : decode cX5_mixIn 6 = .ok (.getfield 104, 3) := by decide +kernel
theorem dX5_mixIn_9 : decode cX5_mixIn 9 = .ok (.invokevirtual 107, 3) := by decide +kernel
theorem dX5_mixIn_12 : decode cX5_mixIn 12 = .ok (.iconst 0, 1) := by decide +kernel
theorem dX5_mixIn_13 : decode cX5_mixIn 13 = .ok (.istore_n 1, 1) := by decide +kernel
theorem dX5_mixIn_14 : decode cX5_mixIn 14 = .ok (.iload_n 1, 1) := by decide +kernel
theorem dX5_mixIn_15 : decode cX5_mixIn 15 = .ok (.bipush 8, 2) := by decide +kernel
theorem dX5_mixIn_17 : decode cX5_mixIn 17 = .ok (.if_icmp .ge 21, 3) := by decide +kernel
theorem dX5_mixIn_20 : decode cX5_mixIn 20 = .ok (.aload_n 0, 1) := by decide +kernel
theorem dX5_mixIn_21 : decode cX5_mixIn 21 = .ok (.getfield 47, 3) := by decide +kernel
theorem dX5_mixIn_24 : decode cX5_mixIn 24 = .ok (.iload_n 1, 1) := by decide +kernel
theorem dX5_mixIn_25 : decode cX5_mixIn 25 = .ok (.aload_n 0, 1) := by decide +kernel
theorem dX5_mixIn_26 : decode cX5_mixIn 26 = .ok (.getfield 53, 3) := by decide +kernel
theorem dX5_mixIn_29 : decode cX5_mixIn 29 = .ok (.iload_n 1, 1) := by decide +kernel
theorem dX5_mixIn_30 : decode cX5_mixIn 30 = .ok (.iaload, 1) := by decide +kernel
theorem dX5_mixIn_31 : decode cX5_mixIn 31 = .ok (.iastore, 1) := by decide +kernel
theorem dX5_mixIn_32 : decode cX5_mixIn 32 = .ok (.iinc 1 1, 3) := by decide +kernel
theorem dX5_mixIn_35 : decode cX5_mixIn 35 = .ok (.goto (-21), 3) := by decide +kernel
theorem dX5_mixIn_38 : decode cX5_mixIn 38 = .ok (.return_, 1) := by decide +kernel
set_option maxRecDepth 20000 in
theorem ggX5_chunk_X5_mixIn : GoodIn wsX5_chunk wsX5_mixIn := goodIn_r _ [12, 3, 7, 1, 13, 14, 15, 16, 11, 17, 18, 4, 19, 5, 20, 21, 22, 23, 24, 25, 26, 27, 28, 29, 30, 31, 32, 33, 34, 35, 36, 37, 38, 39, 40, 41, 42, 43, 44, 45, 46, 47, 48, 49, 50, 51, 52, 53, 54, 55, 56] (by decide +kernel) (by decide +kernel)
set_option maxRecDepth 20000 in
theorem gX5_chunk_X5_mixIn : GoodIn wsX5_chunk (wsV RX5 111 RX5 yX5_mixIn wsX5_mixIn) := goodIn_app (goodIn_of _ (by decide +kernel)) ggX5_chunk_X5_mixIn
theorem dX5_chunk_0 : decode cX5_chunk 0 = .ok (.iconst 0, 1) := by decide +kernel
theorem dX5_chunk_1 : decode cX5_chunk 1 = .ok (.istore 6, 2) := by decide +kernel
theorem dX5_chunk_3 : decode cX5_chunk 3 = .ok (.iload 6, 2) := by decide +kernel
theorem dX5_chunk_5 : decode cX5_chunk 5 = .ok (.bipush 8, 2) := by decide +kernel
theorem dX5_chunk_7 : decode cX5_chunk 7 = .ok (.if_icmp .ge 23, 3) := by decide +kernel
theorem dX5_chunk_10 : decode cX5_chunk 10 = .ok (.aload_n 0, 1) := by decide +kernel
theorem dX5_chunk_11 : decode cX5_chunk 11 = .ok (.getfield 47, 3) := by decide +kernel
theorem dX5_chunk_14 : decode cX5_chunk 14 = .ok (.iload 6, 2) := by decide +kernel
theorem dX5_chunk_16 : decode cX5_chunk 16 = .ok (.aload_n 0, 1) := by decide +kernel
theorem dX5_chunk_17 : decode cX5_chunk 17 = .ok (.getfield 44, 3) := by decide +kernel
theorem dX5_chunk_20 : decode cX5_chunk 20 = .ok (.iload 6, 2) := by decide +kernel
theorem dX5_chunk_22 : decode cX5_chunk 22 = .ok (.iaload, 1) := by decide +kernel
theorem dX5_chunk_23 : decode cX5_chunk 23 = .ok (.iastore, 1) := by decide +kernel
theorem dX5_chunk_24 : decode cX5_chunk 24 = .ok (.iinc 6 1, 3) := by decide +kernel
theorem dX5_chunk_27 : decode cX5_chunk 27 = .ok (.goto (-24), 3) := by decide +kernel
theorem dX5_chunk_30 : decode cX5_chunk 30 = .ok (.aload_n 0, 1) := by decide +kernel
theorem dX5_chunk_31 : decode cX5_chunk 31 = .ok (.lload 4, 2) := by decide +kernel
theorem dX5_chunk_33 : decode cX5_chunk 33 = .ok (.putfield 100, 3) := by decide +kernel
theorem dX5_chunk_36 : decode cX5_chunk 36 = .ok (.iload_n 3, 1) := by decide +kernel
theorem dX5_chunk_37 : decode cX5_chunk 37 = .ok (.ifCond .ne 7, 3) := by decide +kernel
theorem dX5_chunk_40 : decode cX5_chunk 40 = .ok (.iconst 1, 1) := by decide +kernel
theorem dX5_chunk_41 : decode cX5_chunk 41 = .ok (.goto 10, 3) := by decide +kernel
theorem dX5_chunk_44 : decode cX5_chunk 44 = .ok (.iload_n 3, 1) := by decide +kernel
theorem dX5_chunk_45 : decode cX5_chunk 45 = .ok (.bipush 63, 2) := by decide +kernel
theorem dX5_chunk_47 : decode cX5_chunk 47 = .ok (.iadd, 1) := by decide +kernel
theorem dX5_chunk_48 : decode cX5_chunk 48 = .ok (.bipush 64, 2) := by decide +kernel
theorem dX5_chunk_50 : decode cX5_chunk 50 = .ok (.idiv, 1) := by decide +kernel
theorem dX5_chunk_51 : decode cX5_chunk 51 = .ok (.istore 6, 2) := by decide +kernel
theorem dX5_chunk_53 : decode cX5_chunk 53 = .ok (.iconst 0, 1) := by decide +kernel
theorem dX5_chunk_54 : decode cX5_chunk 54 = .ok (.istore 7, 2) := by decide +kernel
theorem dX5_chunk_56 : decode cX5_chunk 56 = .ok (.iload 7, 2) := by decide +kernel
theorem dX5_chunk_58 : decode cX5_chunk 58 = .ok (.iload 6, 2) := by decide +kernel
theorem dX5_chunk_60 : decode cX5_chunk 60 = .ok (.if_icmp .ge 154, 3) := by decide +kernel
theorem dX5_chunk_63 : decode cX5_chunk 63 = .ok (.iload 7, 2) := by decide +kernel
theorem dX5_chunk_65 : decode cX5_chunk 65 = .ok (.ifCond .le 7, 3) := by decide +kernel
theorem dX5_chunk_68 : decode cX5_chunk 68 = .ok (.aload_n 0, 1) := by decide +kernel
theorem dX5_chunk_69 : decode cX5_chunk 69 = .ok (.invokevirtual 111, 3) := by decide +kernel
theorem dX5_chunk_72 : decode cX5_chunk 72 = .ok (.aload_n 0, 1) := by decide +kernel
theorem dX5_chunk_73 : decode cX5_chunk 73 = .ok (.iload_n 3, 1) := by decide +kernel
theorem dX5_chunk_74 : decode cX5_chunk 74 = .ok (.bipush 64, 2) := by decide +kernel
theorem dX5_chunk_76 : decode cX5_chunk 76 = .ok (.iload 7, 2) := by decide +kernel
theorem dX5_chunk_78 : decode cX5_chunk 78 = .ok (.imul, 1) := by decide +kernel
theorem dX5_chunk_79 : decode cX5_chunk 79 = .ok (.isub, 1) := by decide +kernel
theorem dX5_chunk_80 : decode cX5_chunk 80 = .ok (.bipush 64, 2) := by decide +kernel
theorem dX5_chunk_82 : decode cX5_chunk 82 = .ok (.if_icmp .ge 13, 3) := by decide +kernel
theorem dX5_chunk_85 : decode cX5_chunk 85 = .ok (.iload_n 3, 1) := by decide +kernel
theorem dX5_chunk_86 : decode cX5_chunk 86 = .ok (.bipush 64, 2) := by decide +kernel
theorem dX5_chunk_88 : decode cX5_chunk 88 = .ok (.iload 7, 2) := by decide +kernel
theorem dX5_chunk_90 : decode cX5_chunk 90 = .ok (.imul, 1) := by decide +kernel
theorem dX5_chunk_91 : decode cX5_chunk 91 = .ok (.isub, 1) := by decide +kernel
theorem dX5_chunk_92 : decode cX5_chunk 92 = .ok (.goto 5, 3) := by decide +kernel
theorem dX5_chunk_95 : decode cX5_chunk 95 = .ok (.bipush 64, 2) := by decide +kernel
theorem dX5_chunk_97 : decode cX5_chunk 97 = .ok (.putfield 92, 3) := by decide +kernel
theorem dX5_chunk_100 : decode cX5_chunk 100 = .ok (.iconst 0, 1) := by decide +kernel
theorem dX5_chunk_101 : decode cX5_chunk 101 = .ok (.istore 8, 2) := by decide +kernel
theorem dX5_chunk_103 : decode cX5_chunk 103 = .ok (.iload 8, 2) := by decide +kernel
theorem dX5_chunk_105 : decode cX5_chunk 105 = .ok (.bipush 16, 2) := by decide +kernel
theorem dX5_chunk_107 : decode cX5_chunk 107 = .ok (.if_icmp .ge 17, 3) := by decide +kernel
theorem dX5_chunk_110 : decode cX5_chunk 110 = .ok (.aload_n 0, 1) := by decide +kernel
theorem dX5_chunk_111 : decode cX5_chunk 111 = .ok (.getfield 50, 3) := by decide +kernel
theorem dX5_chunk_114 : decode cX5_chunk 114 = .ok (.iload 8, 2) := by decide +kernel
theorem dX5_chunk_116 : decode cX5_chunk 116 = .ok (.iconst 0, 1) := by decide +kernel
theorem dX5_chunk_117 : decode cX5_chunk 117 = .ok (.iastore, 1) := by decide +kernel
theorem dX5_chunk_118 : decode cX5_chunk 118 = .ok (.iinc 8 1, 3) := by decide +kernel
theorem dX5_chunk_121 : decode cX5_chunk 121 = .ok (.goto (-18), 3) := by decide +kernel
theorem dX5_chunk_124 : decode cX5_chunk 124 = .ok (.iconst 0, 1) := by decide +kernel
theorem dX5_chunk_125 : decode cX5_chunk 125 = .ok (.istore 8, 2) := by decide +kernel
theorem dX5_chunk_127 : decode cX5_chunk 127 = .ok (.iload 8, 2) := by decide +kernel
theorem dX5_chunk_129 : decode cX5_chunk 129 = .ok (.aload_n 0, 1) := by decide +kernel
theorem dX5_chunk_130 : decode cX5_chunk 130 = .ok (.getfield 92, 3) := by decide +kernel
theorem dX5_chunk_133 : decode cX5_chunk 133 = .ok (.if_icmp .ge 41, 3) := by decide +kernel
theorem dX5_chunk_136 : decode cX5_chunk 136 = .ok (.aload_n 0, 1) := by decide +kernel
theorem dX5_chunk_137 : decode cX5_chunk 137 = .ok (.getfield 50, 3) := by decide +kernel
theorem dX5_chunk_140 : decode cX5_chunk 140 = .ok (.iload 8, 2) := by decide +kernel
theorem dX5_chunk_142 : decode cX5_chunk 142 = .ok (.iconst 4, 1) := by decide +kernel
theorem dX5_chunk_143 : decode cX5_chunk 143 = .ok (.idiv, 1) := by decide +kernel
theorem dX5_chunk_144 : decode cX5_chunk 144 = .ok (.dup2, 1) := by decide +kernel
theorem dX5_chunk_145 : decode cX5_chunk 145 = .ok (.iaload, 1) := by decide +kernel
theorem dX5_chunk_146 : decode cX5_chunk 146 = .ok (.aload_n 1, 1) := by decide +kernel
theorem dX5_chunk_147 : decode cX5_chunk 147 = .ok (.iload_n 2, 1) := by decide +kernel
theorem dX5_chunk_148 : decode cX5_chunk 148 = .ok (.bipush 64, 2) := by decide +kernel
theorem dX5_chunk_150 : decode cX5_chunk 150 = .ok (.iload 7, 2) := by decide +kernel
theorem dX5_chunk_152 : decode cX5_chunk 152 = .ok (.imul, 1) := by decide +kernel
theorem dX5_chunk_153 : decode cX5_chunk 153 = .ok (.iadd, 1) := by decide +kernel
theorem dX5_chunk_154 : decode cX5_chunk 154 = .ok (.iload 8, 2) := by decide +kernel
theorem dX5_chunk_156 : decode cX5_chunk 156 = .ok (.iadd, 1) := by decide +kernel
theorem dX5_chunk_157 : decode cX5_chunk 157 = .ok (.iaload, 1) := by decide +kernel
theorem dX5_chunk_158 : decode cX5_chunk 158 = .ok (.bipush 8, 2) := by decide +kernel
theorem dX5_chunk_160 : decode cX5_chunk 160 = .ok (.iload 8, 2) := by decide +kernel
theorem dX5_chunk_162 : decode cX5_chunk 162 = .ok (.iconst 4, 1) := by decide +kernel
theorem dX5_chunk_163 : decode cX5_chunk 163 = .ok (.irem, 1) := by decide +kernel
theorem dX5_chunk_164 : decode cX5_chunk 164 = .ok (.imul, 1) := by decide +kernel
theorem dX5_chunk_165 : decode cX5_chunk 165 = .ok (.ishl, 1) := by decide +kernel
theorem dX5_chunk_166 : decode cX5_chunk 166 = .ok (.ior, 1) := by decide +kernel
theorem dX5_chunk_167 : decode cX5_chunk 167 = .ok (.iastore, 1) := by decide +kernel
theorem dX5_chunk_168 : decode cX5_chunk 168 = .ok (.iinc 8 1, 3) := by decide +kernel
theorem dX5_chunk_171 : decode cX5_chunk 171 = .ok (.goto (-44), 3) := by decide +kernel
theorem dX5_chunk_174 : decode cX5_chunk 174 = .ok (.aload_n 0, 1) := by decide +kernel
theorem dX5_chunk_175 : decode cX5_chunk 175 = .ok (.aload_n 0, 1) := by decide +kernel
theorem dX5_chunk_176 : decode cX5_chunk 176 = .ok (.getfield 114, 3) := by decide +kernel
theorem dX5_chunk_179 : decode cX5_chunk 179 = .ok (.iload 7, 2) := by decide +kernel
theorem dX5_chunk_181 : decode cX5_chunk 181 = .ok (.ifCond .ne 7, 3) := by decide +kernel
theorem dX5_chunk_184 : decode cX5_chunk 184 = .ok (.iconst 1, 1) := by decide +kernel
theorem dX5_chunk_185 : decode cX5_chunk 185 = .ok (.goto 4, 3) := by decide +kernel
theorem dX5_chunk_188 : decode cX5_chunk 188 = .ok (.iconst 0, 1) := by decide +kernel
theorem dX5_chunk_189 : decode cX5_chunk 189 = .ok (.iadd, 1) := by decide +kernel
theorem dX5_chunk_190 : decode cX5_chunk 190 = .ok (.iload 7, 2) := by decide +kernel
theorem dX5_chunk_192 : decode cX5_chunk 192 = .ok (.iload 6, 2) := by decide +kernel
theorem dX5_chunk_194 : decode cX5_chunk 194 = .ok (.iconst 1, 1) := by decide +kernel
theorem dX5_chunk_195 : decode cX5_chunk 195 = .ok (.isub, 1) := by decide +kernel
theorem dX5_chunk_196 : decode cX5_chunk 196 = .ok (.if_icmp .ne 7, 3) := by decide +kernel
theorem dX5_chunk_199 : decode cX5_chunk 199 = .ok (.iconst 2, 1) := by decide +kernel
theorem dX5_chunk_200 : decode cX5_chunk 200 = .ok (.goto 4, 3) := by decide +kernel
theorem dX5_chunk_203 : decode cX5_chunk 203 = .ok (.iconst 0, 1) := by decide +kernel
theorem dX5_chunk_204 : decode cX5_chunk 204 = .ok (.iadd, 1) := by decide +kernel
theorem dX5_chunk_205 : decode cX5_chunk 205 = .ok (.putfield 104, 3) := by decide +kernel
theorem dX5_chunk_208 : decode cX5_chunk 208 = .ok (.iinc 7 1, 3) := by decide +kernel
theorem dX5_chunk_211 : decode cX5_chunk 211 = .ok (.goto (-155), 3) := by decide +kernel
theorem dX5_chunk_214 : decode cX5_chunk 214 = .ok (.return_, 1) := by decide +kernel
theorem dX5_parent_0 : decode cX5_parent 0 = .ok (.aload_n 0, 1) := by decide +kernel
theorem dX5_parent_1 : decode cX5_parent 1 = .ok (.dup, 1) := by decide +kernel
theorem dX5_parent_2 : decode cX5_parent 2 = .ok (.getfield 117, 3) := by decide +kernel
theorem dX5_parent_5 : decode cX5_parent 5 = .ok (.iconst 1, 1) := by decide +kernel
theorem dX5_parent_6 : decode cX5_parent 6 = .ok (.isub, 1) := by decide +kernel
theorem dX5_parent_7 : decode cX5_parent 7 = .ok (.putfield 117, 3) := by decide +kernel
theorem dX5_parent_10 : decode cX5_parent 10 = .ok (.iconst 0, 1) := by decide +kernel
theorem dX5_parent_11 : decode cX5_parent 11 = .ok (.istore_n 1, 1) := by decide +kernel
theorem dX5_parent_12 : decode cX5_parent 12 = .ok (.iload_n 1, 1) := by decide +kernel
theorem dX5_parent_13 : decode cX5_parent 13 = .ok (.bipush 8, 2) := by decide +kernel
theorem dX5_parent_15 : decode cX5_parent 15 = .ok (.if_icmp .ge 56, 3) := by decide +kernel
theorem dX5_parent_18 : decode cX5_parent 18 = .ok (.aload_n 0, 1) := by decide +kernel
theorem dX5_parent_19 : decode cX5_parent 19 = .ok (.getfield 50, 3) := by decide +kernel
theorem dX5_parent_22 : decode cX5_parent 22 = .ok (.iload_n 1, 1) := by decide +kernel
theorem dX5_parent_23 : decode cX5_parent 23 = .ok (.aload_n 0, 1) := by decide +kernel
theorem dX5_parent_24 : decode cX5_parent 24 = .ok (.getfield 65, 3) := by decide +kernel
theorem dX5_parent_27 : decode cX5_parent 27 = .ok (.bipush 8, 2) := by decide +kernel
theorem dX5_parent_29 : decode cX5_parent 29 = .ok (.aload_n 0, 1) := by decide +kernel
theorem dX5_parent_30 : decode cX5_parent 30 = .ok (.getfield 117, 3) := by decide +kernel
theorem dX5_parent_33 : decode cX5_parent 33 = .ok (.imul, 1) := by decide +kernel
theorem dX5_parent_34 : decode cX5_parent 34 = .ok (.iload_n 1, 1) := by decide +kernel
theorem dX5_parent_35 : decode cX5_parent 35 = .ok (.iadd, 1) := by decide +kernel
theorem dX5_parent_36 : decode cX5_parent 36 = .ok (.iaload, 1) := by decide +kernel
theorem dX5_parent_37 : decode cX5_parent 37 = .ok (.iastore, 1) := by decide +kernel
theorem dX5_parent_38 : decode cX5_parent 38 = .ok (.aload_n 0, 1) := by decide +kernel
theorem dX5_parent_39 : decode cX5_parent 39 = .ok (.getfield 50, 3) := by decide +kernel
theorem dX5_parent_42 : decode cX5_parent 42 = .ok (.bipush 8, 2) := by decide +kernel
theorem dX5_parent_44 : decode cX5_parent 44 = .ok (.iload_n 1, 1) := by decide +kernel
theorem dX5_parent_45 : decode cX5_parent 45 = .ok (.iadd, 1) := by decide +kernel
theorem dX5_parent_46 : decode cX5_parent 46 = .ok (.aload_n 0, 1) := by decide +kernel
theorem dX5_parent_47 : decode cX5_parent 47 = .ok (.getfield 47, 3) := by decide +kernel
theorem dX5_parent_50 : decode cX5_parent 50 = .ok (.iload_n 1, 1) := by decide +kernel
theorem dX5_parent_51 : decode cX5_parent 51 = .ok (.iaload, 1) := by decide +kernel
theorem dX5_parent_52 : decode cX5_parent 52 = .ok (.iastore, 1) := by decide +kernel
theorem dX5_parent_53 : decode cX5_parent 53 = .ok (.aload_n 0, 1) := by decide +kernel
theorem dX5_parent_54 : decode cX5_parent 54 = .ok (.getfield 47, 3) := by decide +kernel
theorem dX5_parent_57 : decode cX5_parent 57 = .ok (.iload_n 1, 1) := by decide +kernel
theorem dX5_parent_58 : decode cX5_parent 58 = .ok (.aload_n 0, 1) := by decide +kernel
theorem dX5_parent_59 : decode cX5_parent 59 = .ok (.getfield 44, 3) := by decide +kernel
theorem dX5_parent_62 : decode cX5_parent 62 = .ok (.iload_n 1, 1) := by decide +kernel
theorem dX5_parent_63 : decode cX5_parent 63 = .ok (.iaload, 1) := by decide +kernel
theorem dX5_parent_64 : decode cX5_parent 64 = .ok (.iastore, 1) := by decide +kernel
theorem dX5_parent_65 : decode cX5_parent 65 = .ok (.iinc 1 1, 3) := by decide +kernel
theorem dX5_parent_68 : decode cX5_parent 68 = .ok (.goto (-56), 3) := by decide +kernel
theorem dX5_parent_71 : decode cX5_parent 71 = .ok (.aload_n 0, 1) := by decide +kernel
theorem dX5_parent_72 : decode cX5_parent 72 = .ok (.lconst 0, 1) := by decide +kernel
theorem dX5_parent_73 : decode cX5_parent 73 = .ok (.putfield 100, 3) := by decide +kernel
theorem dX5_parent_76 : decode cX5_parent 76 = .ok (.aload_n 0, 1) := by decide +kernel
theorem dX5_parent_77 : decode cX5_parent 77 = .ok (.bipush 64, 2) := by decide +kernel
theorem dX5_parent_79 : decode cX5_parent 79 = .ok (.putfield 92, 3) := by decide +kernel
theorem dX5_parent_82 : decode cX5_parent 82 = .ok (.aload_n 0, 1) := by decide +kernel
theorem dX5_parent_83 : decode cX5_parent 83 = .ok (.aload_n 0, 1) := by decide +kernel
theorem dX5_parent_84 : decode cX5_parent 84 = .ok (.getfield 114, 3) := by decide +kernel
theorem dX5_parent_87 : decode cX5_parent 87 = .ok (.iconst 4, 1) := by decide +kernel
theorem dX5_parent_88 : decode cX5_parent 88 = .ok (.iadd, 1) := by decide +kernel
theorem dX5_parent_89 : decode cX5_parent 89 = .ok (.putfield 104, 3) := by decide +kernel
theorem dX5_parent_92 : decode cX5_parent 92 = .ok (.return_, 1) := by decide +kernel
set_option maxRecDepth 20000 in
theorem ggX5_close_X5_parent : GoodIn wsX5_close wsX5_parent := goodIn_r _ [9, 3, 10, 2, 4, 11, 12, 13, 14, 15, 36, 37, 38, 39, 40, 41, 42, 43, 44, 45, 46, 47, 48, 49, 50, 51, 52, 53, 54, 55, 56, 57, 58, 59, 60, 61, 62, 63] (by decide +kernel) (by decide +kernel)
set_option maxRecDepth 20000 in
theorem gX5_close_X5_parent : GoodIn wsX5_close (wsV RX5 123 RX5 yX5_parent wsX5_parent) := goodIn_app (goodIn_of _ (by decide +kernel)) ggX5_close_X5_parent
set_option maxRecDepth 20000 in
theorem ggX5_close_X5_mixIn : GoodIn wsX5_close wsX5_mixIn := goodIn_r _ [19, 12, 15, 4, 20, 21, 22, 23, 8, 24, 25, 13, 26, 10, 27, 28, 29, 30, 31, 32, 33, 34, 35, 36, 37, 38, 39, 40, 41, 42, 43, 44, 45, 46, 47, 48, 49, 50, 51, 52, 53, 54, 55, 56, 57, 58, 59, 60, 61, 62, 63] (by decide +kernel) (by decide +kernel)
set_option maxRecDepth 20000 in
theorem gX5_close_X5_mixIn : GoodIn wsX5_close (wsV RX5 111 RX5 yX5_mixIn wsX5_mixIn) := goodIn_app (goodIn_of _ (by decide +kernel)) ggX5_close_X5_mixIn
theorem dX5_close_0 : decode cX5_close 0 = .ok (.aload_n 0, 1) := by decide +kernel
theorem dX5_close_1 : decode cX5_close 1 = .ok (.dup, 1) := by decide +kernel
theorem dX5_close_2 : decode cX5_close 2 = .ok (.getfield 120, 3) := by decide +kernel
theorem dX5_close_5 : decode cX5_close 5 = .ok (.iconst 1, 1) := by decide +kernel
theorem dX5_close_6 : decode cX5_close 6 = .ok (.iadd, 1) := by decide +kernel
theorem dX5_close_7 : decode cX5_close 7 = .ok (.putfield 120, 3) := by decide +kernel
theorem dX5_close_10 : decode cX5_close 10 = .ok (.aload_n 0, 1) := by decide +kernel
theorem dX5_close_11 : decode cX5_close 11 = .ok (.getfield 120, 3) := by decide +kernel
theorem dX5_close_14 : decode cX5_close 14 = .ok (.istore_n 1, 1) := by decide +kernel
theorem dX5_close_15 : decode cX5_close 15 = .ok (.iload_n 1, 1) := by decide +kernel
theorem dX5_close_16 : decode cX5_close 16 = .ok (.iconst 2, 1) := by decide +kernel
theorem dX5_close_17 : decode cX5_close 17 = .ok (.irem, 1) := by decide +kernel
theorem dX5_close_18 : decode cX5_close 18 = .ok (.ifCond .ne 18, 3) := by decide +kernel
theorem dX5_close_21 : decode cX5_close 21 = .ok (.aload_n 0, 1) := by decide +kernel
theorem dX5_close_22 : decode cX5_close 22 = .ok (.invokevirtual 123, 3) := by decide +kernel
theorem dX5_close_25 : decode cX5_close 25 = .ok (.aload_n 0, 1) := by decide +kernel
theorem dX5_close_26 : decode cX5_close 26 = .ok (.invokevirtual 111, 3) := by decide +kernel
theorem dX5_close_29 : decode cX5_close 29 = .ok (.iload_n 1, 1) := by decide +kernel
theorem dX5_close_30 : decode cX5_close 30 = .ok (.iconst 2, 1) := by decide +kernel
theorem dX5_close_31 : decode cX5_close 31 = .ok (.idiv, 1) := by decide +kernel
theorem dX5_close_32 : decode cX5_close 32 = .ok (.istore_n 1, 1) := by decide +kernel
theorem dX5_close_33 : decode cX5_close 33 = .ok (.goto (-18), 3) := by decide +kernel
theorem dX5_close_36 : decode cX5_close 36 = .ok (.iconst 0, 1) := by decide +kernel
theorem dX5_close_37 : decode cX5_close 37 = .ok (.istore_n 1, 1) := by decide +kernel
theorem dX5_close_38 : decode cX5_close 38 = .ok (.iload_n 1, 1) := by decide +kernel
theorem dX5_close_39 : decode cX5_close 39 = .ok (.bipush 8, 2) := by decide +kernel
theorem dX5_close_41 : decode cX5_close 41 = .ok (.if_icmp .ge 29, 3) := by decide +kernel
theorem dX5_close_44 : decode cX5_close 44 = .ok (.aload_n 0, 1) := by decide +kernel
theorem dX5_close_45 : decode cX5_close 45 = .ok (.getfield 65, 3) := by decide +kernel
theorem dX5_close_48 : decode cX5_close 48 = .ok (.bipush 8, 2) := by decide +kernel
theorem dX5_close_50 : decode cX5_close 50 = .ok (.aload_n 0, 1) := by decide +kernel
theorem dX5_close_51 : decode cX5_close 51 = .ok (.getfield 117, 3) := by decide +kernel
theorem dX5_close_54 : decode cX5_close 54 = .ok (.imul, 1) := by decide +kernel
theorem dX5_close_55 : decode cX5_close 55 = .ok (.iload_n 1, 1) := by decide +kernel
theorem dX5_close_56 : decode cX5_close 56 = .ok (.iadd, 1) := by decide +kernel
theorem dX5_close_57 : decode cX5_close 57 = .ok (.aload_n 0, 1) := by decide +kernel
theorem dX5_close_58 : decode cX5_close 58 = .ok (.getfield 47, 3) := by decide +kernel
theorem dX5_close_61 : decode cX5_close 61 = .ok (.iload_n 1, 1) := by decide +kernel
theorem dX5_close_62 : decode cX5_close 62 = .ok (.iaload, 1) := by decide +kernel
theorem dX5_close_63 : decode cX5_close 63 = .ok (.iastore, 1) := by decide +kernel
theorem dX5_close_64 : decode cX5_close 64 = .ok (.iinc 1 1, 3) := by decide +kernel
theorem dX5_close_67 : decode cX5_close 67 = .ok (.goto (-29), 3) := by decide +kernel
theorem dX5_close_70 : decode cX5_close 70 = .ok (.aload_n 0, 1) := by decide +kernel
theorem dX5_close_71 : decode cX5_close 71 = .ok (.dup, 1) := by decide +kernel
theorem dX5_close_72 : decode cX5_close 72 = .ok (.getfield 117, 3) := by decide +kernel
theorem dX5_close_75 : decode cX5_close 75 = .ok (.iconst 1, 1) := by decide +kernel
theorem dX5_close_76 : decode cX5_close 76 = .ok (.iadd, 1) := by decide +kernel
theorem dX5_close_77 : decode cX5_close 77 = .ok (.putfield 117, 3) := by decide +kernel
theorem dX5_close_80 : decode cX5_close 80 = .ok (.return_, 1) := by decide +kernel
theorem dX5_beginPile_0 : decode cX5_beginPile 0 = .ok (.aload_n 0, 1) := by decide +kernel
theorem dX5_beginPile_1 : decode cX5_beginPile 1 = .ok (.iconst 0, 1) := by decide +kernel
theorem dX5_beginPile_2 : decode cX5_beginPile 2 = .ok (.putfield 117, 3) := by decide +kernel
theorem dX5_beginPile_5 : decode cX5_beginPile 5 = .ok (.aload_n 0, 1) := by decide +kernel
theorem dX5_beginPile_6 : decode cX5_beginPile 6 = .ok (.iconst 0, 1) := by decide +kernel
theorem dX5_beginPile_7 : decode cX5_beginPile 7 = .ok (.putfield 120, 3) := by decide +kernel
theorem dX5_beginPile_10 : decode cX5_beginPile 10 = .ok (.return_, 1) := by decide +kernel
theorem dX5_chunksOf_0 : decode cX5_chunksOf 0 = .ok (.iload_n 0, 1) := by decide +kernel
theorem dX5_chunksOf_1 : decode cX5_chunksOf 1 = .ok (.ifCond .ne 7, 3) := by decide +kernel
theorem dX5_chunksOf_4 : decode cX5_chunksOf 4 = .ok (.iconst 1, 1) := by decide +kernel
theorem dX5_chunksOf_5 : decode cX5_chunksOf 5 = .ok (.goto 12, 3) := by decide +kernel
theorem dX5_chunksOf_8 : decode cX5_chunksOf 8 = .ok (.iload_n 0, 1) := by decide +kernel
theorem dX5_chunksOf_9 : decode cX5_chunksOf 9 = .ok (.sipush 1023, 3) := by decide +kernel
theorem dX5_chunksOf_12 : decode cX5_chunksOf 12 = .ok (.iadd, 1) := by decide +kernel
theorem dX5_chunksOf_13 : decode cX5_chunksOf 13 = .ok (.sipush 1024, 3) := by decide +kernel
theorem dX5_chunksOf_16 : decode cX5_chunksOf 16 = .ok (.idiv, 1) := by decide +kernel
theorem dX5_chunksOf_17 : decode cX5_chunksOf 17 = .ok (.ireturn, 1) := by decide +kernel
theorem dX5_chunkSize_0 : decode cX5_chunkSize 0 = .ok (.iload_n 0, 1) := by decide +kernel
theorem dX5_chunkSize_1 : decode cX5_chunkSize 1 = .ok (.sipush 1024, 3) := by decide +kernel
theorem dX5_chunkSize_4 : decode cX5_chunkSize 4 = .ok (.iload_n 1, 1) := by decide +kernel
theorem dX5_chunkSize_5 : decode cX5_chunkSize 5 = .ok (.imul, 1) := by decide +kernel
theorem dX5_chunkSize_6 : decode cX5_chunkSize 6 = .ok (.isub, 1) := by decide +kernel
theorem dX5_chunkSize_7 : decode cX5_chunkSize 7 = .ok (.sipush 1024, 3) := by decide +kernel
theorem dX5_chunkSize_10 : decode cX5_chunkSize 10 = .ok (.if_icmp .ge 13, 3) := by decide +kernel
theorem dX5_chunkSize_13 : decode cX5_chunkSize 13 = .ok (.iload_n 0, 1) := by decide +kernel
theorem dX5_chunkSize_14 : decode cX5_chunkSize 14 = .ok (.sipush 1024, 3) := by decide +kernel
theorem dX5_chunkSize_17 : decode cX5_chunkSize 17 = .ok (.iload_n 1, 1) := by decide +kernel
theorem dX5_chunkSize_18 : decode cX5_chunkSize 18 = .ok (.imul, 1) := by decide +kernel
theorem dX5_chunkSize_19 : decode cX5_chunkSize 19 = .ok (.isub, 1) := by decide +kernel
theorem dX5_chunkSize_20 : decode cX5_chunkSize 20 = .ok (.goto 6, 3) := by decide +kernel
theorem dX5_chunkSize_23 : decode cX5_chunkSize 23 = .ok (.sipush 1024, 3) := by decide +kernel
theorem dX5_chunkSize_26 : decode cX5_chunkSize 26 = .ok (.ireturn, 1) := by decide +kernel
set_option maxRecDepth 20000 in
theorem ggX5_tree_X5_beginPile : GoodIn wsX5_tree wsX5_beginPile := goodIn_r _ [6, 1, 7, 51, 52, 53, 54, 55, 56, 57, 58, 59, 60, 61, 62, 63, 64, 65, 66, 67, 68, 69, 70, 71, 72, 73, 74, 75, 76, 77, 78] (by decide +kernel) (by decide +kernel)
set_option maxRecDepth 20000 in
theorem gX5_tree_X5_beginPile : GoodIn wsX5_tree (wsV RX5 126 RX5 yX5_beginPile wsX5_beginPile) := goodIn_app (goodIn_of _ (by decide +kernel)) ggX5_tree_X5_beginPile
set_option maxRecDepth 20000 in
theorem ggX5_tree_X5_chunkSize : GoodIn wsX5_tree wsX5_chunkSize := goodIn_r _ [10] (by decide +kernel) (by decide +kernel)
set_option maxRecDepth 20000 in
theorem gX5_tree_X5_chunkSize : GoodIn wsX5_tree (va_wsS RX5 129 yX5_chunkSize wsX5_chunkSize) := goodIn_app (goodIn_of _ (by decide +kernel)) ggX5_tree_X5_chunkSize
set_option maxRecDepth 20000 in
theorem ggX5_tree_X5_chunk : GoodIn wsX5_tree wsX5_chunk := goodIn_r _ [14, 15, 16, 17, 18, 19, 20, 21, 22, 23, 24, 5, 25, 26, 27, 28, 29, 30, 31, 32, 33, 34, 35, 36, 37, 38, 39, 40, 41, 51, 52, 53, 54, 55, 56, 57, 58, 59, 60, 61, 62, 63, 64, 65, 66, 67, 68, 69, 70, 71, 72, 73, 74, 75, 76, 77, 78] (by decide +kernel) (by decide +kernel)
set_option maxRecDepth 20000 in
theorem gX5_tree_X5_chunk : GoodIn wsX5_tree (wsV RX5 132 RX5 yX5_chunk wsX5_chunk) := goodIn_app (goodIn_of _ (by decide +kernel)) ggX5_tree_X5_chunk
set_option maxRecDepth 20000 in
theorem ggX5_tree_X5_mixIn : GoodIn wsX5_tree wsX5_mixIn := goodIn_r _ [25, 17, 21, 15, 26, 27, 28, 29, 5, 30, 31, 18, 32, 19, 33, 34, 35, 36, 37, 38, 39, 40, 41, 51, 52, 53, 54, 55, 56, 57, 58, 59, 60, 61, 62, 63, 64, 65, 66, 67, 68, 69, 70, 71, 72, 73, 74, 75, 76, 77, 78] (by decide +kernel) (by decide +kernel)
set_option maxRecDepth 20000 in
theorem gX5_tree_X5_mixIn : GoodIn wsX5_tree (wsV RX5 111 RX5 yX5_mixIn wsX5_mixIn) := goodIn_app (goodIn_of _ (by decide +kernel)) ggX5_tree_X5_mixIn
set_option maxRecDepth 20000 in
theorem ggX5_tree_X5_close : GoodIn wsX5_tree wsX5_close := goodIn_r _ [45, 7, 46, 1, 15, 47, 48, 49, 5, 50, 19, 16, 17, 18, 20, 21, 22, 23, 24, 25, 26, 27, 28, 29, 30, 31, 32, 33, 34, 35, 36, 37, 38, 39, 40, 41, 51, 52, 53, 54, 55, 56, 57, 58, 59, 60, 61, 62, 63, 64, 65, 66, 67, 68, 69, 70, 71, 72, 73, 74, 75, 76, 77, 78] (by decide +kernel) (by decide +kernel)
set_option maxRecDepth 20000 in
theorem gX5_tree_X5_close : GoodIn wsX5_tree (wsV RX5 136 RX5 yX5_close wsX5_close) := goodIn_app (goodIn_of _ (by decide +kernel)) ggX5_tree_X5_close
set_option maxRecDepth 20000 in
theorem ggX5_tree_X5_parent : GoodIn wsX5_tree wsX5_parent := goodIn_r _ [50, 1, 19, 46, 15, 16, 17, 18, 20, 21, 51, 52, 53, 54, 55, 56, 57, 58, 59, 60, 61, 62, 63, 64, 65, 66, 67, 68, 69, 70, 71, 72, 73, 74, 75, 76, 77, 78] (by decide +kernel) (by decide +kernel)
set_option maxRecDepth 20000 in
theorem gX5_tree_X5_parent : GoodIn wsX5_tree (wsV RX5 123 RX5 yX5_parent wsX5_parent) := goodIn_app (goodIn_of _ (by decide +kernel)) ggX5_tree_X5_parent
theorem dX5_tree_0 : decode cX5_tree 0 = .ok (.aload_n 0, 1) := by decide +kernel
theorem dX5_tree_1 : decode cX5_tree 1 = .ok (.invokevirtual 126, 3) := by decide +kernel
theorem dX5_tree_4 : decode cX5_tree 4 = .ok (.iload 4, 2) := by decide +kernel
theorem dX5_tree_6 : decode cX5_tree 6 = .ok (.istore 6, 2) := by decide +kernel
theorem dX5_tree_8 : decode cX5_tree 8 = .ok (.iload 6, 2) := by decide +kernel
theorem dX5_tree_10 : decode cX5_tree 10 = .ok (.iload 5, 2) := by decide +kernel
theorem dX5_tree_12 : decode cX5_tree 12 = .ok (.iconst 1, 1) := by decide +kernel
theorem dX5_tree_13 : decode cX5_tree 13 = .ok (.isub, 1) := by decide +kernel
theorem dX5_tree_14 : decode cX5_tree 14 = .ok (.if_icmp .ge 39, 3) := by decide +kernel
theorem dX5_tree_17 : decode cX5_tree 17 = .ok (.aload_n 0, 1) := by decide +kernel
theorem dX5_tree_18 : decode cX5_tree 18 = .ok (.aload_n 1, 1) := by decide +kernel
theorem dX5_tree_19 : decode cX5_tree 19 = .ok (.iload_n 2, 1) := by decide +kernel
theorem dX5_tree_20 : decode cX5_tree 20 = .ok (.sipush 1024, 3) := by decide +kernel
theorem dX5_tree_23 : decode cX5_tree 23 = .ok (.iload 6, 2) := by decide +kernel
theorem dX5_tree_25 : decode cX5_tree 25 = .ok (.imul, 1) := by decide +kernel
theorem dX5_tree_26 : decode cX5_tree 26 = .ok (.iadd, 1) := by decide +kernel
theorem dX5_tree_27 : decode cX5_tree 27 = .ok (.iload_n 3, 1) := by decide +kernel
theorem dX5_tree_28 : decode cX5_tree 28 = .ok (.iload 6, 2) := by decide +kernel
theorem dX5_tree_30 : decode cX5_tree 30 = .ok (.invokestatic 129, 3) := by decide +kernel
theorem dX5_tree_33 : decode cX5_tree 33 = .ok (.iload 6, 2) := by decide +kernel
theorem dX5_tree_35 : decode cX5_tree 35 = .ok (.i2l, 1) := by decide +kernel
theorem dX5_tree_36 : decode cX5_tree 36 = .ok (.invokevirtual 132, 3) := by decide +kernel
theorem dX5_tree_39 : decode cX5_tree 39 = .ok (.aload_n 0, 1) := by decide +kernel
theorem dX5_tree_40 : decode cX5_tree 40 = .ok (.invokevirtual 111, 3) := by decide +kernel
theorem dX5_tree_43 : decode cX5_tree 43 = .ok (.aload_n 0, 1) := by decide +kernel
theorem dX5_tree_44 : decode cX5_tree 44 = .ok (.invokevirtual 136, 3) := by decide +kernel
theorem dX5_tree_47 : decode cX5_tree 47 = .ok (.iinc 6 1, 3) := by decide +kernel
theorem dX5_tree_50 : decode cX5_tree 50 = .ok (.goto (-42), 3) := by decide +kernel
theorem dX5_tree_53 : decode cX5_tree 53 = .ok (.aload_n 0, 1) := by decide +kernel
theorem dX5_tree_54 : decode cX5_tree 54 = .ok (.aload_n 1, 1) := by decide +kernel
theorem dX5_tree_55 : decode cX5_tree 55 = .ok (.iload_n 2, 1) := by decide +kernel
theorem dX5_tree_56 : decode cX5_tree 56 = .ok (.sipush 1024, 3) := by decide +kernel
theorem dX5_tree_59 : decode cX5_tree 59 = .ok (.iload 5, 2) := by decide +kernel
theorem dX5_tree_61 : decode cX5_tree 61 = .ok (.iconst 1, 1) := by decide +kernel
theorem dX5_tree_62 : decode cX5_tree 62 = .ok (.isub, 1) := by decide +kernel
theorem dX5_tree_63 : decode cX5_tree 63 = .ok (.imul, 1) := by decide +kernel
theorem dX5_tree_64 : decode cX5_tree 64 = .ok (.iadd, 1) := by decide +kernel
theorem dX5_tree_65 : decode cX5_tree 65 = .ok (.iload_n 3, 1) := by decide +kernel
theorem dX5_tree_66 : decode cX5_tree 66 = .ok (.iload 5, 2) := by decide +kernel
theorem dX5_tree_68 : decode cX5_tree 68 = .ok (.iconst 1, 1) := by decide +kernel
theorem dX5_tree_69 : decode cX5_tree 69 = .ok (.isub, 1) := by decide +kernel
theorem dX5_tree_70 : decode cX5_tree 70 = .ok (.invokestatic 129, 3) := by decide +kernel
theorem dX5_tree_73 : decode cX5_tree 73 = .ok (.iload 5, 2) := by decide +kernel
theorem dX5_tree_75 : decode cX5_tree 75 = .ok (.iconst 1, 1) := by decide +kernel
theorem dX5_tree_76 : decode cX5_tree 76 = .ok (.isub, 1) := by decide +kernel
theorem dX5_tree_77 : decode cX5_tree 77 = .ok (.i2l, 1) := by decide +kernel
theorem dX5_tree_78 : decode cX5_tree 78 = .ok (.invokevirtual 132, 3) := by decide +kernel
theorem dX5_tree_81 : decode cX5_tree 81 = .ok (.aload_n 0, 1) := by decide +kernel
theorem dX5_tree_82 : decode cX5_tree 82 = .ok (.getfield 117, 3) := by decide +kernel
theorem dX5_tree_85 : decode cX5_tree 85 = .ok (.ifCond .le 14, 3) := by decide +kernel
theorem dX5_tree_88 : decode cX5_tree 88 = .ok (.aload_n 0, 1) := by decide +kernel
theorem dX5_tree_89 : decode cX5_tree 89 = .ok (.invokevirtual 111, 3) := by decide +kernel
theorem dX5_tree_92 : decode cX5_tree 92 = .ok (.aload_n 0, 1) := by decide +kernel
theorem dX5_tree_93 : decode cX5_tree 93 = .ok (.invokevirtual 123, 3) := by decide +kernel
theorem dX5_tree_96 : decode cX5_tree 96 = .ok (.goto (-15), 3) := by decide +kernel
theorem dX5_tree_99 : decode cX5_tree 99 = .ok (.return_, 1) := by decide +kernel
theorem dX5_useKey_0 : decode cX5_useKey 0 = .ok (.iconst 0, 1) := by decide +kernel
theorem dX5_useKey_1 : decode cX5_useKey 1 = .ok (.istore_n 2, 1) := by decide +kernel
theorem dX5_useKey_2 : decode cX5_useKey 2 = .ok (.iload_n 2, 1) := by decide +kernel
theorem dX5_useKey_3 : decode cX5_useKey 3 = .ok (.bipush 8, 2) := by decide +kernel
theorem dX5_useKey_5 : decode cX5_useKey 5 = .ok (.if_icmp .ge 39, 3) := by decide +kernel
theorem dX5_useKey_8 : decode cX5_useKey 8 = .ok (.aload_n 0, 1) := by decide +kernel
theorem dX5_useKey_9 : decode cX5_useKey 9 = .ok (.getfield 44, 3) := by decide +kernel
theorem dX5_useKey_12 : decode cX5_useKey 12 = .ok (.iload_n 2, 1) := by decide +kernel
theorem dX5_useKey_13 : decode cX5_useKey 13 = .ok (.iload_n 1, 1) := by decide +kernel
theorem dX5_useKey_14 : decode cX5_useKey 14 = .ok (.ifCond .ge 12, 3) := by decide +kernel
theorem dX5_useKey_17 : decode cX5_useKey 17 = .ok (.aload_n 0, 1) := by decide +kernel
theorem dX5_useKey_18 : decode cX5_useKey 18 = .ok (.getfield 41, 3) := by decide +kernel
theorem dX5_useKey_21 : decode cX5_useKey 21 = .ok (.iload_n 2, 1) := by decide +kernel
theorem dX5_useKey_22 : decode cX5_useKey 22 = .ok (.iaload, 1) := by decide +kernel
theorem dX5_useKey_23 : decode cX5_useKey 23 = .ok (.goto 14, 3) := by decide +kernel
theorem dX5_useKey_26 : decode cX5_useKey 26 = .ok (.aload_n 0, 1) := by decide +kernel
theorem dX5_useKey_27 : decode cX5_useKey 27 = .ok (.getfield 26, 3) := by decide +kernel
theorem dX5_useKey_30 : decode cX5_useKey 30 = .ok (.bipush 8, 2) := by decide +kernel
theorem dX5_useKey_32 : decode cX5_useKey 32 = .ok (.iload_n 1, 1) := by decide +kernel
theorem dX5_useKey_33 : decode cX5_useKey 33 = .ok (.imul, 1) := by decide +kernel
theorem dX5_useKey_34 : decode cX5_useKey 34 = .ok (.iload_n 2, 1) := by decide +kernel
theorem dX5_useKey_35 : decode cX5_useKey 35 = .ok (.iadd, 1) := by decide +kernel
theorem dX5_useKey_36 : decode cX5_useKey 36 = .ok (.iaload, 1) := by decide +kernel
theorem dX5_useKey_37 : decode cX5_useKey 37 = .ok (.iastore, 1) := by decide +kernel
theorem dX5_useKey_38 : decode cX5_useKey 38 = .ok (.iinc 2 1, 3) := by decide +kernel
theorem dX5_useKey_41 : decode cX5_useKey 41 = .ok (.goto (-39), 3) := by decide +kernel
theorem dX5_useKey_44 : decode cX5_useKey 44 = .ok (.aload_n 0, 1) := by decide +kernel
theorem dX5_useKey_45 : decode cX5_useKey 45 = .ok (.iload_n 1, 1) := by decide +kernel
theorem dX5_useKey_46 : decode cX5_useKey 46 = .ok (.ifCond .lt 12, 3) := by decide +kernel
theorem dX5_useKey_49 : decode cX5_useKey 49 = .ok (.aload_n 0, 1) := by decide +kernel
theorem dX5_useKey_50 : decode cX5_useKey 50 = .ok (.getfield 23, 3) := by decide +kernel
theorem dX5_useKey_53 : decode cX5_useKey 53 = .ok (.iload_n 1, 1) := by decide +kernel
theorem dX5_useKey_54 : decode cX5_useKey 54 = .ok (.iaload, 1) := by decide +kernel
theorem dX5_useKey_55 : decode cX5_useKey 55 = .ok (.ifCond .ne 7, 3) := by decide +kernel
theorem dX5_useKey_58 : decode cX5_useKey 58 = .ok (.iconst 0, 1) := by decide +kernel
theorem dX5_useKey_59 : decode cX5_useKey 59 = .ok (.goto 20, 3) := by decide +kernel
theorem dX5_useKey_62 : decode cX5_useKey 62 = .ok (.aload_n 0, 1) := by decide +kernel
theorem dX5_useKey_63 : decode cX5_useKey 63 = .ok (.getfield 23, 3) := by decide +kernel
theorem dX5_useKey_66 : decode cX5_useKey 66 = .ok (.iload_n 1, 1) := by decide +kernel
theorem dX5_useKey_67 : decode cX5_useKey 67 = .ok (.iaload, 1) := by decide +kernel
theorem dX5_useKey_68 : decode cX5_useKey 68 = .ok (.iconst 1, 1) := by decide +kernel
theorem dX5_useKey_69 : decode cX5_useKey 69 = .ok (.if_icmp .ne 8, 3) := by decide +kernel
theorem dX5_useKey_72 : decode cX5_useKey 72 = .ok (.bipush 16, 2) := by decide +kernel
theorem dX5_useKey_74 : decode cX5_useKey 74 = .ok (.goto 5, 3) := by decide +kernel
theorem dX5_useKey_77 : decode cX5_useKey 77 = .ok (.bipush 64, 2) := by decide +kernel
theorem dX5_useKey_79 : decode cX5_useKey 79 = .ok (.putfield 114, 3) := by decide +kernel
theorem dX5_useKey_82 : decode cX5_useKey 82 = .ok (.return_, 1) := by decide +kernel
set_option maxRecDepth 20000 in
theorem ggX5_pileOf_X5_useKey : GoodIn wsX5_pileOf wsX5_useKey := goodIn_r _ [10, 11, 12, 13, 14, 15, 63, 64, 65, 66, 67, 68, 69, 70, 71, 72, 73, 74, 75, 76, 77, 78, 79, 80, 81, 82, 83, 84, 85, 86, 87, 88, 89, 90] (by decide +kernel) (by decide +kernel)
set_option maxRecDepth 20000 in
theorem gX5_pileOf_X5_useKey : GoodIn wsX5_pileOf (wsV RX5 139 RX5 yX5_useKey wsX5_useKey) := goodIn_app (goodIn_of _ (by decide +kernel)) ggX5_pileOf_X5_useKey
set_option maxRecDepth 20000 in
theorem ggX5_pileOf_X5_closedOf : GoodIn wsX5_pileOf wsX5_closedOf := goodIn_r _ [19, 20, 63, 64, 65, 66, 67, 68, 69, 70, 71, 72, 73, 74, 75, 76, 77, 78, 79, 80, 81, 82, 83, 84, 85, 86, 87, 88, 89, 90] (by decide +kernel) (by decide +kernel)
set_option maxRecDepth 20000 in
theorem gX5_pileOf_X5_closedOf : GoodIn wsX5_pileOf (wsV RX5 142 RX5 yX5_closedOf wsX5_closedOf) := goodIn_app (goodIn_of _ (by decide +kernel)) ggX5_pileOf_X5_closedOf
set_option maxRecDepth 20000 in
theorem ggX5_pileOf_X5_chunk : GoodIn wsX5_pileOf wsX5_chunk := goodIn_r _ [24, 5, 11, 25, 26, 27, 15, 28, 29, 30, 31, 9, 32, 33, 34, 35, 36, 37, 12, 38, 39, 40, 41, 42, 43, 44, 45, 46, 47, 63, 64, 65, 66, 67, 68, 69, 70, 71, 72, 73, 74, 75, 76, 77, 78, 79, 80, 81, 82, 83, 84, 85, 86, 87, 88, 89, 90] (by decide +kernel) (by decide +kernel)
set_option maxRecDepth 20000 in
theorem gX5_pileOf_X5_chunk : GoodIn wsX5_pileOf (wsV RX5 132 RX5 yX5_chunk wsX5_chunk) := goodIn_app (goodIn_of _ (by decide +kernel)) ggX5_pileOf_X5_chunk
set_option maxRecDepth 20000 in
theorem ggX5_pileOf_X5_mixIn : GoodIn wsX5_pileOf wsX5_mixIn := goodIn_r _ [32, 25, 28, 5, 33, 34, 35, 36, 9, 37, 12, 26, 38, 27, 39, 40, 41, 42, 43, 44, 45, 46, 47, 63, 64, 65, 66, 67, 68, 69, 70, 71, 72, 73, 74, 75, 76, 77, 78, 79, 80, 81, 82, 83, 84, 85, 86, 87, 88, 89, 90] (by decide +kernel) (by decide +kernel)
set_option maxRecDepth 20000 in
theorem gX5_pileOf_X5_mixIn : GoodIn wsX5_pileOf (wsV RX5 111 RX5 yX5_mixIn wsX5_mixIn) := goodIn_app (goodIn_of _ (by decide +kernel)) ggX5_pileOf_X5_mixIn
set_option maxRecDepth 20000 in
theorem ggX5_pileOf_X5_beginPile : GoodIn wsX5_pileOf wsX5_beginPile := goodIn_r _ [51, 52, 53, 63, 64, 65, 66, 67, 68, 69, 70, 71, 72, 73, 74, 75, 76, 77, 78, 79, 80, 81, 82, 83, 84, 85, 86, 87, 88, 89, 90] (by decide +kernel) (by decide +kernel)
set_option maxRecDepth 20000 in
theorem gX5_pileOf_X5_beginPile : GoodIn wsX5_pileOf (wsV RX5 126 RX5 yX5_beginPile wsX5_beginPile) := goodIn_app (goodIn_of _ (by decide +kernel)) ggX5_pileOf_X5_beginPile
set_option maxRecDepth 20000 in
theorem ggX5_pileOf_X5_close : GoodIn wsX5_pileOf wsX5_close := goodIn_r _ [57, 53, 58, 52, 5, 59, 60, 61, 9, 62, 27, 11, 25, 26, 15, 28, 29, 30, 31, 32, 33, 34, 35, 36, 37, 12, 38, 39, 40, 41, 42, 43, 44, 45, 46, 47, 63, 64, 65, 66, 67, 68, 69, 70, 71, 72, 73, 74, 75, 76, 77, 78, 79, 80, 81, 82, 83, 84, 85, 86, 87, 88, 89, 90] (by decide +kernel) (by decide +kernel)
set_option maxRecDepth 20000 in
theorem gX5_pileOf_X5_close : GoodIn wsX5_pileOf (wsV RX5 136 RX5 yX5_close wsX5_close) := goodIn_app (goodIn_of _ (by decide +kernel)) ggX5_pileOf_X5_close
theorem dX5_pileOf_0 : decode cX5_pileOf 0 = .ok (.aload_n 0, 1) := by decide +kernel
theorem dX5_pileOf_1 : decode cX5_pileOf 1 = .ok (.iload_n 1, 1) := by decide +kernel
theorem dX5_pileOf_2 : decode cX5_pileOf 2 = .ok (.invokevirtual 139, 3) := by decide +kernel
theorem dX5_pileOf_5 : decode cX5_pileOf 5 = .ok (.aload_n 0, 1) := by decide +kernel
theorem dX5_pileOf_6 : decode cX5_pileOf 6 = .ok (.iload_n 1, 1) := by decide +kernel
theorem dX5_pileOf_7 : decode cX5_pileOf 7 = .ok (.invokevirtual 142, 3) := by decide +kernel
theorem dX5_pileOf_10 : decode cX5_pileOf 10 = .ok (.istore_n 2, 1) := by decide +kernel
theorem dX5_pileOf_11 : decode cX5_pileOf 11 = .ok (.aload_n 0, 1) := by decide +kernel
theorem dX5_pileOf_12 : decode cX5_pileOf 12 = .ok (.getfield 32, 3) := by decide +kernel
theorem dX5_pileOf_15 : decode cX5_pileOf 15 = .ok (.iload_n 1, 1) := by decide +kernel
theorem dX5_pileOf_16 : decode cX5_pileOf 16 = .ok (.iaload, 1) := by decide +kernel
theorem dX5_pileOf_17 : decode cX5_pileOf 17 = .ok (.iload_n 2, 1) := by decide +kernel
theorem dX5_pileOf_18 : decode cX5_pileOf 18 = .ok (.if_icmp .ge 95, 3) := by decide +kernel
theorem dX5_pileOf_21 : decode cX5_pileOf 21 = .ok (.aload_n 0, 1) := by decide +kernel
theorem dX5_pileOf_22 : decode cX5_pileOf 22 = .ok (.aload_n 0, 1) := by decide +kernel
theorem dX5_pileOf_23 : decode cX5_pileOf 23 = .ok (.getfield 17, 3) := by decide +kernel
theorem dX5_pileOf_26 : decode cX5_pileOf 26 = .ok (.ldc 146, 2) := by decide +kernel
theorem dX5_pileOf_28 : decode cX5_pileOf 28 = .ok (.iload_n 1, 1) := by decide +kernel
theorem dX5_pileOf_29 : decode cX5_pileOf 29 = .ok (.imul, 1) := by decide +kernel
theorem dX5_pileOf_30 : decode cX5_pileOf 30 = .ok (.sipush 1024, 3) := by decide +kernel
theorem dX5_pileOf_33 : decode cX5_pileOf 33 = .ok (.aload_n 0, 1) := by decide +kernel
theorem dX5_pileOf_34 : decode cX5_pileOf 34 = .ok (.getfield 32, 3) := by decide +kernel
theorem dX5_pileOf_37 : decode cX5_pileOf 37 = .ok (.iload_n 1, 1) := by decide +kernel
theorem dX5_pileOf_38 : decode cX5_pileOf 38 = .ok (.iaload, 1) := by decide +kernel
theorem dX5_pileOf_39 : decode cX5_pileOf 39 = .ok (.imul, 1) := by decide +kernel
theorem dX5_pileOf_40 : decode cX5_pileOf 40 = .ok (.iadd, 1) := by decide +kernel
theorem dX5_pileOf_41 : decode cX5_pileOf 41 = .ok (.sipush 1024, 3) := by decide +kernel
theorem dX5_pileOf_44 : decode cX5_pileOf 44 = .ok (.aload_n 0, 1) := by decide +kernel
theorem dX5_pileOf_45 : decode cX5_pileOf 45 = .ok (.getfield 32, 3) := by decide +kernel
theorem dX5_pileOf_48 : decode cX5_pileOf 48 = .ok (.iload_n 1, 1) := by decide +kernel
theorem dX5_pileOf_49 : decode cX5_pileOf 49 = .ok (.iaload, 1) := by decide +kernel
theorem dX5_pileOf_50 : decode cX5_pileOf 50 = .ok (.i2l, 1) := by decide +kernel
theorem dX5_pileOf_51 : decode cX5_pileOf 51 = .ok (.invokevirtual 132, 3) := by decide +kernel
theorem dX5_pileOf_54 : decode cX5_pileOf 54 = .ok (.aload_n 0, 1) := by decide +kernel
theorem dX5_pileOf_55 : decode cX5_pileOf 55 = .ok (.invokevirtual 111, 3) := by decide +kernel
theorem dX5_pileOf_58 : decode cX5_pileOf 58 = .ok (.iconst 0, 1) := by decide +kernel
theorem dX5_pileOf_59 : decode cX5_pileOf 59 = .ok (.istore_n 3, 1) := by decide +kernel
theorem dX5_pileOf_60 : decode cX5_pileOf 60 = .ok (.iload_n 3, 1) := by decide +kernel
theorem dX5_pileOf_61 : decode cX5_pileOf 61 = .ok (.bipush 8, 2) := by decide +kernel
theorem dX5_pileOf_63 : decode cX5_pileOf 63 = .ok (.if_icmp .ge 37, 3) := by decide +kernel
theorem dX5_pileOf_66 : decode cX5_pileOf 66 = .ok (.aload_n 0, 1) := by decide +kernel
theorem dX5_pileOf_67 : decode cX5_pileOf 67 = .ok (.getfield 29, 3) := by decide +kernel
theorem dX5_pileOf_70 : decode cX5_pileOf 70 = .ok (.sipush 320, 3) := by decide +kernel
theorem dX5_pileOf_73 : decode cX5_pileOf 73 = .ok (.iload_n 1, 1) := by decide +kernel
theorem dX5_pileOf_74 : decode cX5_pileOf 74 = .ok (.imul, 1) := by decide +kernel
theorem dX5_pileOf_75 : decode cX5_pileOf 75 = .ok (.bipush 8, 2) := by decide +kernel
theorem dX5_pileOf_77 : decode cX5_pileOf 77 = .ok (.aload_n 0, 1) := by decide +kernel
theorem dX5_pileOf_78 : decode cX5_pileOf 78 = .ok (.getfield 32, 3) := by decide +kernel
theorem dX5_pileOf_81 : decode cX5_pileOf 81 = .ok (.iload_n 1, 1) := by decide +kernel
theorem dX5_pileOf_82 : decode cX5_pileOf 82 = .ok (.iaload, 1) := by decide +kernel
theorem dX5_pileOf_83 : decode cX5_pileOf 83 = .ok (.imul, 1) := by decide +kernel
theorem dX5_pileOf_84 : decode cX5_pileOf 84 = .ok (.iadd, 1) := by decide +kernel
theorem dX5_pileOf_85 : decode cX5_pileOf 85 = .ok (.iload_n 3, 1) := by decide +kernel
theorem dX5_pileOf_86 : decode cX5_pileOf 86 = .ok (.iadd, 1) := by decide +kernel
theorem dX5_pileOf_87 : decode cX5_pileOf 87 = .ok (.aload_n 0, 1) := by decide +kernel
theorem dX5_pileOf_88 : decode cX5_pileOf 88 = .ok (.getfield 47, 3) := by decide +kernel
theorem dX5_pileOf_91 : decode cX5_pileOf 91 = .ok (.iload_n 3, 1) := by decide +kernel
theorem dX5_pileOf_92 : decode cX5_pileOf 92 = .ok (.iaload, 1) := by decide +kernel
theorem dX5_pileOf_93 : decode cX5_pileOf 93 = .ok (.iastore, 1) := by decide +kernel
theorem dX5_pileOf_94 : decode cX5_pileOf 94 = .ok (.iinc 3 1, 3) := by decide +kernel
theorem dX5_pileOf_97 : decode cX5_pileOf 97 = .ok (.goto (-37), 3) := by decide +kernel
theorem dX5_pileOf_100 : decode cX5_pileOf 100 = .ok (.aload_n 0, 1) := by decide +kernel
theorem dX5_pileOf_101 : decode cX5_pileOf 101 = .ok (.getfield 32, 3) := by decide +kernel
theorem dX5_pileOf_104 : decode cX5_pileOf 104 = .ok (.iload_n 1, 1) := by decide +kernel
theorem dX5_pileOf_105 : decode cX5_pileOf 105 = .ok (.dup2, 1) := by decide +kernel
theorem dX5_pileOf_106 : decode cX5_pileOf 106 = .ok (.iaload, 1) := by decide +kernel
theorem dX5_pileOf_107 : decode cX5_pileOf 107 = .ok (.iconst 1, 1) := by decide +kernel
theorem dX5_pileOf_108 : decode cX5_pileOf 108 = .ok (.iadd, 1) := by decide +kernel
theorem dX5_pileOf_109 : decode cX5_pileOf 109 = .ok (.iastore, 1) := by decide +kernel
theorem dX5_pileOf_110 : decode cX5_pileOf 110 = .ok (.goto (-99), 3) := by decide +kernel
theorem dX5_pileOf_113 : decode cX5_pileOf 113 = .ok (.aload_n 0, 1) := by decide +kernel
theorem dX5_pileOf_114 : decode cX5_pileOf 114 = .ok (.invokevirtual 126, 3) := by decide +kernel
theorem dX5_pileOf_117 : decode cX5_pileOf 117 = .ok (.iconst 0, 1) := by decide +kernel
theorem dX5_pileOf_118 : decode cX5_pileOf 118 = .ok (.istore_n 3, 1) := by decide +kernel
theorem dX5_pileOf_119 : decode cX5_pileOf 119 = .ok (.iload_n 3, 1) := by decide +kernel
theorem dX5_pileOf_120 : decode cX5_pileOf 120 = .ok (.iload_n 2, 1) := by decide +kernel
theorem dX5_pileOf_121 : decode cX5_pileOf 121 = .ok (.if_icmp .ge 54, 3) := by decide +kernel
theorem dX5_pileOf_124 : decode cX5_pileOf 124 = .ok (.iconst 0, 1) := by decide +kernel
theorem dX5_pileOf_125 : decode cX5_pileOf 125 = .ok (.istore 4, 2) := by decide +kernel
theorem dX5_pileOf_127 : decode cX5_pileOf 127 = .ok (.iload 4, 2) := by decide +kernel
theorem dX5_pileOf_129 : decode cX5_pileOf 129 = .ok (.bipush 8, 2) := by decide +kernel
theorem dX5_pileOf_131 : decode cX5_pileOf 131 = .ok (.if_icmp .ge 34, 3) := by decide +kernel
theorem dX5_pileOf_134 : decode cX5_pileOf 134 = .ok (.aload_n 0, 1) := by decide +kernel
theorem dX5_pileOf_135 : decode cX5_pileOf 135 = .ok (.getfield 47, 3) := by decide +kernel
theorem dX5_pileOf_138 : decode cX5_pileOf 138 = .ok (.iload 4, 2) := by decide +kernel
theorem dX5_pileOf_140 : decode cX5_pileOf 140 = .ok (.aload_n 0, 1) := by decide +kernel
theorem dX5_pileOf_141 : decode cX5_pileOf 141 = .ok (.getfield 29, 3) := by decide +kernel
theorem dX5_pileOf_144 : decode cX5_pileOf 144 = .ok (.sipush 320, 3) := by decide +kernel
theorem dX5_pileOf_147 : decode cX5_pileOf 147 = .ok (.iload_n 1, 1) := by decide +kernel
theorem dX5_pileOf_148 : decode cX5_pileOf 148 = .ok (.imul, 1) := by decide +kernel
theorem dX5_pileOf_149 : decode cX5_pileOf 149 = .ok (.bipush 8, 2) := by decide +kernel
theorem dX5_pileOf_151 : decode cX5_pileOf 151 = .ok (.iload_n 3, 1) := by decide +kernel
theorem dX5_pileOf_152 : decode cX5_pileOf 152 = .ok (.imul, 1) := by decide +kernel
theorem dX5_pileOf_153 : decode cX5_pileOf 153 = .ok (.iadd, 1) := by decide +kernel
theorem dX5_pileOf_154 : decode cX5_pileOf 154 = .ok (.iload 4, 2) := by decide +kernel
theorem dX5_pileOf_156 : decode cX5_pileOf 156 = .ok (.iadd, 1) := by decide +kernel
theorem dX5_pileOf_157 : decode cX5_pileOf 157 = .ok (.iaload, 1) := by decide +kernel
theorem dX5_pileOf_158 : decode cX5_pileOf 158 = .ok (.iastore, 1) := by decide +kernel
theorem dX5_pileOf_159 : decode cX5_pileOf 159 = .ok (.iinc 4 1, 3) := by decide +kernel
theorem dX5_pileOf_162 : decode cX5_pileOf 162 = .ok (.goto (-35), 3) := by decide +kernel
theorem dX5_pileOf_165 : decode cX5_pileOf 165 = .ok (.aload_n 0, 1) := by decide +kernel
theorem dX5_pileOf_166 : decode cX5_pileOf 166 = .ok (.invokevirtual 136, 3) := by decide +kernel
theorem dX5_pileOf_169 : decode cX5_pileOf 169 = .ok (.iinc 3 1, 3) := by decide +kernel
theorem dX5_pileOf_172 : decode cX5_pileOf 172 = .ok (.goto (-53), 3) := by decide +kernel
theorem dX5_pileOf_175 : decode cX5_pileOf 175 = .ok (.return_, 1) := by decide +kernel
theorem dX5_closedOf_0 : decode cX5_closedOf 0 = .ok (.aload_n 0, 1) := by decide +kernel
theorem dX5_closedOf_1 : decode cX5_closedOf 1 = .ok (.getfield 20, 3) := by decide +kernel
theorem dX5_closedOf_4 : decode cX5_closedOf 4 = .ok (.iload_n 1, 1) := by decide +kernel
theorem dX5_closedOf_5 : decode cX5_closedOf 5 = .ok (.iaload, 1) := by decide +kernel
theorem dX5_closedOf_6 : decode cX5_closedOf 6 = .ok (.ifCond .ne 7, 3) := by decide +kernel
theorem dX5_closedOf_9 : decode cX5_closedOf 9 = .ok (.iconst 0, 1) := by decide +kernel
theorem dX5_closedOf_10 : decode cX5_closedOf 10 = .ok (.goto 15, 3) := by decide +kernel
theorem dX5_closedOf_13 : decode cX5_closedOf 13 = .ok (.aload_n 0, 1) := by decide +kernel
theorem dX5_closedOf_14 : decode cX5_closedOf 14 = .ok (.getfield 20, 3) := by decide +kernel
theorem dX5_closedOf_17 : decode cX5_closedOf 17 = .ok (.iload_n 1, 1) := by decide +kernel
theorem dX5_closedOf_18 : decode cX5_closedOf 18 = .ok (.iaload, 1) := by decide +kernel
theorem dX5_closedOf_19 : decode cX5_closedOf 19 = .ok (.iconst 1, 1) := by decide +kernel
theorem dX5_closedOf_20 : decode cX5_closedOf 20 = .ok (.isub, 1) := by decide +kernel
theorem dX5_closedOf_21 : decode cX5_closedOf 21 = .ok (.sipush 1024, 3) := by decide +kernel
theorem dX5_closedOf_24 : decode cX5_closedOf 24 = .ok (.idiv, 1) := by decide +kernel
theorem dX5_closedOf_25 : decode cX5_closedOf 25 = .ok (.ireturn, 1) := by decide +kernel
theorem dX5_isRegister_0 : decode cX5_isRegister 0 = .ok (.iload_n 0, 1) := by decide +kernel
theorem dX5_isRegister_1 : decode cX5_isRegister 1 = .ok (.ifCond .lt 13, 3) := by decide +kernel
theorem dX5_isRegister_4 : decode cX5_isRegister 4 = .ok (.iload_n 0, 1) := by decide +kernel
theorem dX5_isRegister_5 : decode cX5_isRegister 5 = .ok (.bipush 8, 2) := by decide +kernel
theorem dX5_isRegister_7 : decode cX5_isRegister 7 = .ok (.if_icmp .ge 7, 3) := by decide +kernel
theorem dX5_isRegister_10 : decode cX5_isRegister 10 = .ok (.iconst 1, 1) := by decide +kernel
theorem dX5_isRegister_11 : decode cX5_isRegister 11 = .ok (.goto 4, 3) := by decide +kernel
theorem dX5_isRegister_14 : decode cX5_isRegister 14 = .ok (.iconst 0, 1) := by decide +kernel
theorem dX5_isRegister_15 : decode cX5_isRegister 15 = .ok (.ireturn, 1) := by decide +kernel
theorem dX5_isHasher_0 : decode cX5_isHasher 0 = .ok (.iload_n 0, 1) := by decide +kernel
theorem dX5_isHasher_1 : decode cX5_isHasher 1 = .ok (.ifCond .lt 12, 3) := by decide +kernel
theorem dX5_isHasher_4 : decode cX5_isHasher 4 = .ok (.iload_n 0, 1) := by decide +kernel
theorem dX5_isHasher_5 : decode cX5_isHasher 5 = .ok (.iconst 4, 1) := by decide +kernel
theorem dX5_isHasher_6 : decode cX5_isHasher 6 = .ok (.if_icmp .ge 7, 3) := by decide +kernel
theorem dX5_isHasher_9 : decode cX5_isHasher 9 = .ok (.iconst 1, 1) := by decide +kernel
theorem dX5_isHasher_10 : decode cX5_isHasher 10 = .ok (.goto 4, 3) := by decide +kernel
theorem dX5_isHasher_13 : decode cX5_isHasher 13 = .ok (.iconst 0, 1) := by decide +kernel
theorem dX5_isHasher_14 : decode cX5_isHasher 14 = .ok (.ireturn, 1) := by decide +kernel
set_option maxRecDepth 20000 in
theorem ggX5_add_X5_isRegister : GoodIn wsX5_add wsX5_isRegister := goodIn_r _ [7] (by decide +kernel) (by decide +kernel)
set_option maxRecDepth 20000 in
theorem gX5_add_X5_isRegister : GoodIn wsX5_add (va_wsS RX5 147 yX5_isRegister wsX5_isRegister) := goodIn_app (goodIn_of _ (by decide +kernel)) ggX5_add_X5_isRegister
theorem dX5_add_0 : decode cX5_add 0 = .ok (.iload_n 1, 1) := by decide +kernel
theorem dX5_add_1 : decode cX5_add 1 = .ok (.invokestatic 147, 3) := by decide +kernel
theorem dX5_add_4 : decode cX5_add 4 = .ok (.ifCond .eq 14, 3) := by decide +kernel
theorem dX5_add_7 : decode cX5_add 7 = .ok (.iload_n 2, 1) := by decide +kernel
theorem dX5_add_8 : decode cX5_add 8 = .ok (.iconst 1, 1) := by decide +kernel
theorem dX5_add_9 : decode cX5_add 9 = .ok (.if_icmp .lt 9, 3) := by decide +kernel
theorem dX5_add_12 : decode cX5_add 12 = .ok (.iload_n 2, 1) := by decide +kernel
theorem dX5_add_13 : decode cX5_add 13 = .ok (.bipush 8, 2) := by decide +kernel
theorem dX5_add_15 : decode cX5_add 15 = .ok (.if_icmp .le 6, 3) := by decide +kernel
theorem dX5_add_18 : decode cX5_add 18 = .ok (.bipush (-2), 2) := by decide +kernel
theorem dX5_add_20 : decode cX5_add 20 = .ok (.ireturn, 1) := by decide +kernel
theorem dX5_add_21 : decode cX5_add 21 = .ok (.aload_n 0, 1) := by decide +kernel
theorem dX5_add_22 : decode cX5_add 22 = .ok (.getfield 13, 3) := by decide +kernel
theorem dX5_add_25 : decode cX5_add 25 = .ok (.iload_n 1, 1) := by decide +kernel
theorem dX5_add_26 : decode cX5_add 26 = .ok (.iaload, 1) := by decide +kernel
theorem dX5_add_27 : decode cX5_add 27 = .ok (.iload_n 2, 1) := by decide +kernel
theorem dX5_add_28 : decode cX5_add 28 = .ok (.iadd, 1) := by decide +kernel
theorem dX5_add_29 : decode cX5_add 29 = .ok (.sipush 200, 3) := by decide +kernel
theorem dX5_add_32 : decode cX5_add 32 = .ok (.if_icmp .le 6, 3) := by decide +kernel
theorem dX5_add_35 : decode cX5_add 35 = .ok (.bipush (-3), 2) := by decide +kernel
theorem dX5_add_37 : decode cX5_add 37 = .ok (.ireturn, 1) := by decide +kernel
theorem dX5_add_38 : decode cX5_add 38 = .ok (.iconst 0, 1) := by decide +kernel
theorem dX5_add_39 : decode cX5_add 39 = .ok (.istore 5, 2) := by decide +kernel
theorem dX5_add_41 : decode cX5_add 41 = .ok (.iload 5, 2) := by decide +kernel
theorem dX5_add_43 : decode cX5_add 43 = .ok (.iload_n 2, 1) := by decide +kernel
theorem dX5_add_44 : decode cX5_add 44 = .ok (.if_icmp .ge 48, 3) := by decide +kernel
theorem dX5_add_47 : decode cX5_add 47 = .ok (.aload_n 0, 1) := by decide +kernel
theorem dX5_add_48 : decode cX5_add 48 = .ok (.getfield 7, 3) := by decide +kernel
theorem dX5_add_51 : decode cX5_add 51 = .ok (.sipush 200, 3) := by decide +kernel
theorem dX5_add_54 : decode cX5_add 54 = .ok (.iload_n 1, 1) := by decide +kernel
theorem dX5_add_55 : decode cX5_add 55 = .ok (.imul, 1) := by decide +kernel
theorem dX5_add_56 : decode cX5_add 56 = .ok (.aload_n 0, 1) := by decide +kernel
theorem dX5_add_57 : decode cX5_add 57 = .ok (.getfield 13, 3) := by decide +kernel
theorem dX5_add_60 : decode cX5_add 60 = .ok (.iload_n 1, 1) := by decide +kernel
theorem dX5_add_61 : decode cX5_add 61 = .ok (.iaload, 1) := by decide +kernel
theorem dX5_add_62 : decode cX5_add 62 = .ok (.iadd, 1) := by decide +kernel
theorem dX5_add_63 : decode cX5_add 63 = .ok (.lload_n 3, 1) := by decide +kernel
theorem dX5_add_64 : decode cX5_add 64 = .ok (.bipush 8, 2) := by decide +kernel
theorem dX5_add_66 : decode cX5_add 66 = .ok (.iload 5, 2) := by decide +kernel
theorem dX5_add_68 : decode cX5_add 68 = .ok (.imul, 1) := by decide +kernel
theorem dX5_add_69 : decode cX5_add 69 = .ok (.lshr, 1) := by decide +kernel
theorem dX5_add_70 : decode cX5_add 70 = .ok (.ldc2_w 151, 3) := by decide +kernel
theorem dX5_add_73 : decode cX5_add 73 = .ok (.land, 1) := by decide +kernel
theorem dX5_add_74 : decode cX5_add 74 = .ok (.l2i, 1) := by decide +kernel
theorem dX5_add_75 : decode cX5_add 75 = .ok (.iastore, 1) := by decide +kernel
theorem dX5_add_76 : decode cX5_add 76 = .ok (.aload_n 0, 1) := by decide +kernel
theorem dX5_add_77 : decode cX5_add 77 = .ok (.getfield 13, 3) := by decide +kernel
theorem dX5_add_80 : decode cX5_add 80 = .ok (.iload_n 1, 1) := by decide +kernel
theorem dX5_add_81 : decode cX5_add 81 = .ok (.dup2, 1) := by decide +kernel
theorem dX5_add_82 : decode cX5_add 82 = .ok (.iaload, 1) := by decide +kernel
theorem dX5_add_83 : decode cX5_add 83 = .ok (.iconst 1, 1) := by decide +kernel
theorem dX5_add_84 : decode cX5_add 84 = .ok (.iadd, 1) := by decide +kernel
theorem dX5_add_85 : decode cX5_add 85 = .ok (.iastore, 1) := by decide +kernel
theorem dX5_add_86 : decode cX5_add 86 = .ok (.iinc 5 1, 3) := by decide +kernel
theorem dX5_add_89 : decode cX5_add 89 = .ok (.goto (-48), 3) := by decide +kernel
theorem dX5_add_92 : decode cX5_add 92 = .ok (.aload_n 0, 1) := by decide +kernel
theorem dX5_add_93 : decode cX5_add 93 = .ok (.getfield 13, 3) := by decide +kernel
theorem dX5_add_96 : decode cX5_add 96 = .ok (.iload_n 1, 1) := by decide +kernel
theorem dX5_add_97 : decode cX5_add 97 = .ok (.iaload, 1) := by decide +kernel
theorem dX5_add_98 : decode cX5_add 98 = .ok (.ireturn, 1) := by decide +kernel
set_option maxRecDepth 20000 in
theorem ggX5_clear_X5_isRegister : GoodIn wsX5_clear wsX5_isRegister := goodIn_r _ [5] (by decide +kernel) (by decide +kernel)
set_option maxRecDepth 20000 in
theorem gX5_clear_X5_isRegister : GoodIn wsX5_clear (va_wsS RX5 147 yX5_isRegister wsX5_isRegister) := goodIn_app (goodIn_of _ (by decide +kernel)) ggX5_clear_X5_isRegister
theorem dX5_clear_0 : decode cX5_clear 0 = .ok (.iload_n 1, 1) := by decide +kernel
theorem dX5_clear_1 : decode cX5_clear 1 = .ok (.invokestatic 147, 3) := by decide +kernel
theorem dX5_clear_4 : decode cX5_clear 4 = .ok (.ifCond .ne 6, 3) := by decide +kernel
theorem dX5_clear_7 : decode cX5_clear 7 = .ok (.bipush (-2), 2) := by decide +kernel
theorem dX5_clear_9 : decode cX5_clear 9 = .ok (.ireturn, 1) := by decide +kernel
theorem dX5_clear_10 : decode cX5_clear 10 = .ok (.aload_n 0, 1) := by decide +kernel
theorem dX5_clear_11 : decode cX5_clear 11 = .ok (.getfield 13, 3) := by decide +kernel
theorem dX5_clear_14 : decode cX5_clear 14 = .ok (.iload_n 1, 1) := by decide +kernel
theorem dX5_clear_15 : decode cX5_clear 15 = .ok (.iaload, 1) := by decide +kernel
theorem dX5_clear_16 : decode cX5_clear 16 = .ok (.istore_n 2, 1) := by decide +kernel
theorem dX5_clear_17 : decode cX5_clear 17 = .ok (.aload_n 0, 1) := by decide +kernel
theorem dX5_clear_18 : decode cX5_clear 18 = .ok (.getfield 13, 3) := by decide +kernel
theorem dX5_clear_21 : decode cX5_clear 21 = .ok (.iload_n 1, 1) := by decide +kernel
theorem dX5_clear_22 : decode cX5_clear 22 = .ok (.iconst 0, 1) := by decide +kernel
theorem dX5_clear_23 : decode cX5_clear 23 = .ok (.iastore, 1) := by decide +kernel
theorem dX5_clear_24 : decode cX5_clear 24 = .ok (.iload_n 2, 1) := by decide +kernel
theorem dX5_clear_25 : decode cX5_clear 25 = .ok (.ireturn, 1) := by decide +kernel
set_option maxRecDepth 20000 in
theorem ggX5_size_X5_isRegister : GoodIn wsX5_size wsX5_isRegister := goodIn_r _ [5] (by decide +kernel) (by decide +kernel)
set_option maxRecDepth 20000 in
theorem gX5_size_X5_isRegister : GoodIn wsX5_size (va_wsS RX5 147 yX5_isRegister wsX5_isRegister) := goodIn_app (goodIn_of _ (by decide +kernel)) ggX5_size_X5_isRegister
theorem dX5_size_0 : decode cX5_size 0 = .ok (.iload_n 1, 1) := by decide +kernel
theorem dX5_size_1 : decode cX5_size 1 = .ok (.invokestatic 147, 3) := by decide +kernel
theorem dX5_size_4 : decode cX5_size 4 = .ok (.ifCond .eq 12, 3) := by decide +kernel
theorem dX5_size_7 : decode cX5_size 7 = .ok (.aload_n 0, 1) := by decide +kernel
theorem dX5_size_8 : decode cX5_size 8 = .ok (.getfield 13, 3) := by decide +kernel
theorem dX5_size_11 : decode cX5_size 11 = .ok (.iload_n 1, 1) := by decide +kernel
theorem dX5_size_12 : decode cX5_size 12 = .ok (.iaload, 1) := by decide +kernel
theorem dX5_size_13 : decode cX5_size 13 = .ok (.goto 5, 3) := by decide +kernel
theorem dX5_size_16 : decode cX5_size 16 = .ok (.bipush (-2), 2) := by decide +kernel
theorem dX5_size_18 : decode cX5_size 18 = .ok (.ireturn, 1) := by decide +kernel
set_option maxRecDepth 20000 in
theorem ggX5_at_X5_isRegister : GoodIn wsX5_at wsX5_isRegister := goodIn_r _ [6] (by decide +kernel) (by decide +kernel)
set_option maxRecDepth 20000 in
theorem gX5_at_X5_isRegister : GoodIn wsX5_at (va_wsS RX5 147 yX5_isRegister wsX5_isRegister) := goodIn_app (goodIn_of _ (by decide +kernel)) ggX5_at_X5_isRegister
theorem dX5_at_0 : decode cX5_at 0 = .ok (.iload_n 1, 1) := by decide +kernel
theorem dX5_at_1 : decode cX5_at 1 = .ok (.invokestatic 147, 3) := by decide +kernel
theorem dX5_at_4 : decode cX5_at 4 = .ok (.ifCond .ne 6, 3) := by decide +kernel
theorem dX5_at_7 : decode cX5_at 7 = .ok (.bipush (-2), 2) := by decide +kernel
theorem dX5_at_9 : decode cX5_at 9 = .ok (.ireturn, 1) := by decide +kernel
theorem dX5_at_10 : decode cX5_at 10 = .ok (.iload_n 2, 1) := by decide +kernel
theorem dX5_at_11 : decode cX5_at 11 = .ok (.ifCond .lt 28, 3) := by decide +kernel
theorem dX5_at_14 : decode cX5_at 14 = .ok (.iload_n 2, 1) := by decide +kernel
theorem dX5_at_15 : decode cX5_at 15 = .ok (.aload_n 0, 1) := by decide +kernel
theorem dX5_at_16 : decode cX5_at 16 = .ok (.getfield 13, 3) := by decide +kernel
theorem dX5_at_19 : decode cX5_at 19 = .ok (.iload_n 1, 1) := by decide +kernel
theorem dX5_at_20 : decode cX5_at 20 = .ok (.iaload, 1) := by decide +kernel
theorem dX5_at_21 : decode cX5_at 21 = .ok (.if_icmp .ge 18, 3) := by decide +kernel
theorem dX5_at_24 : decode cX5_at 24 = .ok (.aload_n 0, 1) := by decide +kernel
theorem dX5_at_25 : decode cX5_at 25 = .ok (.getfield 7, 3) := by decide +kernel
theorem dX5_at_28 : decode cX5_at 28 = .ok (.sipush 200, 3) := by decide +kernel
theorem dX5_at_31 : decode cX5_at 31 = .ok (.iload_n 1, 1) := by decide +kernel
theorem dX5_at_32 : decode cX5_at 32 = .ok (.imul, 1) := by decide +kernel
theorem dX5_at_33 : decode cX5_at 33 = .ok (.iload_n 2, 1) := by decide +kernel
theorem dX5_at_34 : decode cX5_at 34 = .ok (.iadd, 1) := by decide +kernel
theorem dX5_at_35 : decode cX5_at 35 = .ok (.iaload, 1) := by decide +kernel
theorem dX5_at_36 : decode cX5_at 36 = .ok (.goto 4, 3) := by decide +kernel
theorem dX5_at_39 : decode cX5_at 39 = .ok (.iconst (-1), 1) := by decide +kernel
theorem dX5_at_40 : decode cX5_at 40 = .ok (.ireturn, 1) := by decide +kernel
set_option maxRecDepth 20000 in
theorem ggX5_begin_X5_isHasher : GoodIn wsX5_begin wsX5_isHasher := goodIn_r _ [13] (by decide +kernel) (by decide +kernel)
set_option maxRecDepth 20000 in
theorem gX5_begin_X5_isHasher : GoodIn wsX5_begin (va_wsS RX5 153 yX5_isHasher wsX5_isHasher) := goodIn_app (goodIn_of _ (by decide +kernel)) ggX5_begin_X5_isHasher
set_option maxRecDepth 20000 in
theorem ggX5_begin_X5_isRegister : GoodIn wsX5_begin wsX5_isRegister := goodIn_r _ [16] (by decide +kernel) (by decide +kernel)
set_option maxRecDepth 20000 in
theorem gX5_begin_X5_isRegister : GoodIn wsX5_begin (va_wsS RX5 147 yX5_isRegister wsX5_isRegister) := goodIn_app (goodIn_of _ (by decide +kernel)) ggX5_begin_X5_isRegister
set_option maxRecDepth 20000 in
theorem ggX5_begin_X5_plain : GoodIn wsX5_begin wsX5_plain := goodIn_r _ [20, 5, 21, 56, 57, 58, 59, 60, 61, 62, 63, 64, 65, 66, 67, 68, 69, 70, 71, 72, 73, 74, 75, 76, 77, 78, 79, 80, 81, 82, 83] (by decide +kernel) (by decide +kernel)
set_option maxRecDepth 20000 in
theorem gX5_begin_X5_plain : GoodIn wsX5_begin (wsV RX5 84 RX5 yX5_plain wsX5_plain) := goodIn_app (goodIn_of _ (by decide +kernel)) ggX5_begin_X5_plain
set_option maxRecDepth 20000 in
theorem ggX5_begin_X5_wordAt : GoodIn wsX5_begin wsX5_wordAt := goodIn_r _ [24] (by decide +kernel) (by decide +kernel)
set_option maxRecDepth 20000 in
theorem gX5_begin_X5_wordAt : GoodIn wsX5_begin (va_wsS RX5 156 yX5_wordAt wsX5_wordAt) := goodIn_app (goodIn_of _ (by decide +kernel)) ggX5_begin_X5_wordAt
set_option maxRecDepth 20000 in
theorem ggX5_begin_X5_useKey : GoodIn wsX5_begin wsX5_useKey := goodIn_r _ [28, 29, 21, 5, 4, 7, 56, 57, 58, 59, 60, 61, 62, 63, 64, 65, 66, 67, 68, 69, 70, 71, 72, 73, 74, 75, 76, 77, 78, 79, 80, 81, 82, 83] (by decide +kernel) (by decide +kernel)
set_option maxRecDepth 20000 in
theorem gX5_begin_X5_useKey : GoodIn wsX5_begin (wsV RX5 139 RX5 yX5_useKey wsX5_useKey) := goodIn_app (goodIn_of _ (by decide +kernel)) ggX5_begin_X5_useKey
set_option maxRecDepth 20000 in
theorem ggX5_begin_X5_chunk : GoodIn wsX5_begin wsX5_chunk := goodIn_r _ [33, 34, 29, 35, 36, 37, 7, 8, 38, 39, 40, 12, 41, 9, 42, 43, 44, 45, 21, 46, 47, 48, 49, 50, 51, 52, 53, 54, 55, 56, 57, 58, 59, 60, 61, 62, 63, 64, 65, 66, 67, 68, 69, 70, 71, 72, 73, 74, 75, 76, 77, 78, 79, 80, 81, 82, 83] (by decide +kernel) (by decide +kernel)
set_option maxRecDepth 20000 in
theorem gX5_begin_X5_chunk : GoodIn wsX5_begin (wsV RX5 132 RX5 yX5_chunk wsX5_chunk) := goodIn_app (goodIn_of _ (by decide +kernel)) ggX5_begin_X5_chunk
set_option maxRecDepth 20000 in
theorem ggX5_begin_X5_mix : GoodIn wsX5_begin wsX5_mix := goodIn_r _ [45, 9, 34, 21, 36, 46, 37, 47, 48, 49, 50, 51, 12, 52, 53, 54, 55, 56, 57, 58, 59, 60, 61, 62, 63, 64, 65, 66, 67, 68, 69, 70, 71, 72, 73, 74, 75, 76, 77, 78, 79, 80, 81, 82, 83] (by decide +kernel) (by decide +kernel)
set_option maxRecDepth 20000 in
theorem gX5_begin_X5_mix : GoodIn wsX5_begin (wsV RX5 107 RX5 yX5_mix wsX5_mix) := goodIn_app (goodIn_of _ (by decide +kernel)) ggX5_begin_X5_mix
theorem dX5_begin_0 : decode cX5_begin 0 = .ok (.iload_n 1, 1) := by decide +kernel
theorem dX5_begin_1 : decode cX5_begin 1 = .ok (.invokestatic 153, 3) := by decide +kernel
theorem dX5_begin_4 : decode cX5_begin 4 = .ok (.ifCond .eq 39, 3) := by decide +kernel
theorem dX5_begin_7 : decode cX5_begin 7 = .ok (.iload_n 2, 1) := by decide +kernel
theorem dX5_begin_8 : decode cX5_begin 8 = .ok (.ifCond .lt 35, 3) := by decide +kernel
theorem dX5_begin_11 : decode cX5_begin 11 = .ok (.iload_n 2, 1) := by decide +kernel
theorem dX5_begin_12 : decode cX5_begin 12 = .ok (.iconst 2, 1) := by decide +kernel
theorem dX5_begin_13 : decode cX5_begin 13 = .ok (.if_icmp .gt 30, 3) := by decide +kernel
theorem dX5_begin_16 : decode cX5_begin 16 = .ok (.iload_n 2, 1) := by decide +kernel
theorem dX5_begin_17 : decode cX5_begin 17 = .ok (.ifCond .le 10, 3) := by decide +kernel
theorem dX5_begin_20 : decode cX5_begin 20 = .ok (.iload_n 3, 1) := by decide +kernel
theorem dX5_begin_21 : decode cX5_begin 21 = .ok (.invokestatic 147, 3) := by decide +kernel
theorem dX5_begin_24 : decode cX5_begin 24 = .ok (.ifCond .eq 19, 3) := by decide +kernel
theorem dX5_begin_27 : decode cX5_begin 27 = .ok (.iload_n 2, 1) := by decide +kernel
theorem dX5_begin_28 : decode cX5_begin 28 = .ok (.iconst 1, 1) := by decide +kernel
theorem dX5_begin_29 : decode cX5_begin 29 = .ok (.if_icmp .ne 17, 3) := by decide +kernel
theorem dX5_begin_32 : decode cX5_begin 32 = .ok (.aload_n 0, 1) := by decide +kernel
theorem dX5_begin_33 : decode cX5_begin 33 = .ok (.getfield 13, 3) := by decide +kernel
theorem dX5_begin_36 : decode cX5_begin 36 = .ok (.iload_n 3, 1) := by decide +kernel
theorem dX5_begin_37 : decode cX5_begin 37 = .ok (.iaload, 1) := by decide +kernel
theorem dX5_begin_38 : decode cX5_begin 38 = .ok (.bipush 32, 2) := by decide +kernel
theorem dX5_begin_40 : decode cX5_begin 40 = .ok (.if_icmp .eq 6, 3) := by decide +kernel
theorem dX5_begin_43 : decode cX5_begin 43 = .ok (.bipush (-2), 2) := by decide +kernel
theorem dX5_begin_45 : decode cX5_begin 45 = .ok (.ireturn, 1) := by decide +kernel
theorem dX5_begin_46 : decode cX5_begin 46 = .ok (.aload_n 0, 1) := by decide +kernel
theorem dX5_begin_47 : decode cX5_begin 47 = .ok (.getfield 20, 3) := by decide +kernel
theorem dX5_begin_50 : decode cX5_begin 50 = .ok (.iload_n 1, 1) := by decide +kernel
theorem dX5_begin_51 : decode cX5_begin 51 = .ok (.iconst 0, 1) := by decide +kernel
theorem dX5_begin_52 : decode cX5_begin 52 = .ok (.iastore, 1) := by decide +kernel
theorem dX5_begin_53 : decode cX5_begin 53 = .ok (.aload_n 0, 1) := by decide +kernel
theorem dX5_begin_54 : decode cX5_begin 54 = .ok (.getfield 32, 3) := by decide +kernel
theorem dX5_begin_57 : decode cX5_begin 57 = .ok (.iload_n 1, 1) := by decide +kernel
theorem dX5_begin_58 : decode cX5_begin 58 = .ok (.iconst 0, 1) := by decide +kernel
theorem dX5_begin_59 : decode cX5_begin 59 = .ok (.iastore, 1) := by decide +kernel
theorem dX5_begin_60 : decode cX5_begin 60 = .ok (.aload_n 0, 1) := by decide +kernel
theorem dX5_begin_61 : decode cX5_begin 61 = .ok (.getfield 23, 3) := by decide +kernel
theorem dX5_begin_64 : decode cX5_begin 64 = .ok (.iload_n 1, 1) := by decide +kernel
theorem dX5_begin_65 : decode cX5_begin 65 = .ok (.iload_n 2, 1) := by decide +kernel
theorem dX5_begin_66 : decode cX5_begin 66 = .ok (.iastore, 1) := by decide +kernel
theorem dX5_begin_67 : decode cX5_begin 67 = .ok (.aload_n 0, 1) := by decide +kernel
theorem dX5_begin_68 : decode cX5_begin 68 = .ok (.iload_n 1, 1) := by decide +kernel
theorem dX5_begin_69 : decode cX5_begin 69 = .ok (.invokevirtual 84, 3) := by decide +kernel
theorem dX5_begin_72 : decode cX5_begin 72 = .ok (.iload_n 2, 1) := by decide +kernel
theorem dX5_begin_73 : decode cX5_begin 73 = .ok (.iconst 1, 1) := by decide +kernel
theorem dX5_begin_74 : decode cX5_begin 74 = .ok (.if_icmp .ne 51, 3) := by decide +kernel
theorem dX5_begin_77 : decode cX5_begin 77 = .ok (.iconst 0, 1) := by decide +kernel
theorem dX5_begin_78 : decode cX5_begin 78 = .ok (.istore 4, 2) := by decide +kernel
theorem dX5_begin_80 : decode cX5_begin 80 = .ok (.iload 4, 2) := by decide +kernel
theorem dX5_begin_82 : decode cX5_begin 82 = .ok (.bipush 8, 2) := by decide +kernel
theorem dX5_begin_84 : decode cX5_begin 84 = .ok (.if_icmp .ge 38, 3) := by decide +kernel
theorem dX5_begin_87 : decode cX5_begin 87 = .ok (.aload_n 0, 1) := by decide +kernel
theorem dX5_begin_88 : decode cX5_begin 88 = .ok (.getfield 26, 3) := by decide +kernel
theorem dX5_begin_91 : decode cX5_begin 91 = .ok (.bipush 8, 2) := by decide +kernel
theorem dX5_begin_93 : decode cX5_begin 93 = .ok (.iload_n 1, 1) := by decide +kernel
theorem dX5_begin_94 : decode cX5_begin 94 = .ok (.imul, 1) := by decide +kernel
theorem dX5_begin_95 : decode cX5_begin 95 = .ok (.iload 4, 2) := by decide +kernel
theorem dX5_begin_97 : decode cX5_begin 97 = .ok (.iadd, 1) := by decide +kernel
theorem dX5_begin_98 : decode cX5_begin 98 = .ok (.aload_n 0, 1) := by decide +kernel
theorem dX5_begin_99 : decode cX5_begin 99 = .ok (.getfield 7, 3) := by decide +kernel
theorem dX5_begin_102 : decode cX5_begin 102 = .ok (.sipush 200, 3) := by decide +kernel
theorem dX5_begin_105 : decode cX5_begin 105 = .ok (.iload_n 3, 1) := by decide +kernel
theorem dX5_begin_106 : decode cX5_begin 106 = .ok (.imul, 1) := by decide +kernel
theorem dX5_begin_107 : decode cX5_begin 107 = .ok (.iconst 4, 1) := by decide +kernel
theorem dX5_begin_108 : decode cX5_begin 108 = .ok (.iload 4, 2) := by decide +kernel
theorem dX5_begin_110 : decode cX5_begin 110 = .ok (.imul, 1) := by decide +kernel
theorem dX5_begin_111 : decode cX5_begin 111 = .ok (.iadd, 1) := by decide +kernel
theorem dX5_begin_112 : decode cX5_begin 112 = .ok (.invokestatic 156, 3) := by decide +kernel
theorem dX5_begin_115 : decode cX5_begin 115 = .ok (.iastore, 1) := by decide +kernel
theorem dX5_begin_116 : decode cX5_begin 116 = .ok (.iinc 4 1, 3) := by decide +kernel
theorem dX5_begin_119 : decode cX5_begin 119 = .ok (.goto (-39), 3) := by decide +kernel
theorem dX5_begin_122 : decode cX5_begin 122 = .ok (.goto 86, 3) := by decide +kernel
theorem dX5_begin_125 : decode cX5_begin 125 = .ok (.iload_n 2, 1) := by decide +kernel
theorem dX5_begin_126 : decode cX5_begin 126 = .ok (.iconst 2, 1) := by decide +kernel
theorem dX5_begin_127 : decode cX5_begin 127 = .ok (.if_icmp .ne 81, 3) := by decide +kernel
theorem dX5_begin_130 : decode cX5_begin 130 = .ok (.aload_n 0, 1) := by decide +kernel
theorem dX5_begin_131 : decode cX5_begin 131 = .ok (.iconst (-1), 1) := by decide +kernel
theorem dX5_begin_132 : decode cX5_begin 132 = .ok (.invokevirtual 139, 3) := by decide +kernel
theorem dX5_begin_135 : decode cX5_begin 135 = .ok (.aload_n 0, 1) := by decide +kernel
theorem dX5_begin_136 : decode cX5_begin 136 = .ok (.bipush 32, 2) := by decide +kernel
theorem dX5_begin_138 : decode cX5_begin 138 = .ok (.putfield 114, 3) := by decide +kernel
theorem dX5_begin_141 : decode cX5_begin 141 = .ok (.aload_n 0, 1) := by decide +kernel
theorem dX5_begin_142 : decode cX5_begin 142 = .ok (.aload_n 0, 1) := by decide +kernel
theorem dX5_begin_143 : decode cX5_begin 143 = .ok (.getfield 7, 3) := by decide +kernel
theorem dX5_begin_146 : decode cX5_begin 146 = .ok (.sipush 200, 3) := by decide +kernel
theorem dX5_begin_149 : decode cX5_begin 149 = .ok (.iload_n 3, 1) := by decide +kernel
theorem dX5_begin_150 : decode cX5_begin 150 = .ok (.imul, 1) := by decide +kernel
theorem dX5_begin_151 : decode cX5_begin 151 = .ok (.aload_n 0, 1) := by decide +kernel
theorem dX5_begin_152 : decode cX5_begin 152 = .ok (.getfield 13, 3) := by decide +kernel
theorem dX5_begin_155 : decode cX5_begin 155 = .ok (.iload_n 3, 1) := by decide +kernel
theorem dX5_begin_156 : decode cX5_begin 156 = .ok (.iaload, 1) := by decide +kernel
theorem dX5_begin_157 : decode cX5_begin 157 = .ok (.lconst 0, 1) := by decide +kernel
theorem dX5_begin_158 : decode cX5_begin 158 = .ok (.invokevirtual 132, 3) := by decide +kernel
theorem dX5_begin_161 : decode cX5_begin 161 = .ok (.aload_n 0, 1) := by decide +kernel
theorem dX5_begin_162 : decode cX5_begin 162 = .ok (.lconst 0, 1) := by decide +kernel
theorem dX5_begin_163 : decode cX5_begin 163 = .ok (.aload_n 0, 1) := by decide +kernel
theorem dX5_begin_164 : decode cX5_begin 164 = .ok (.getfield 104, 3) := by decide +kernel
theorem dX5_begin_167 : decode cX5_begin 167 = .ok (.bipush 8, 2) := by decide +kernel
theorem dX5_begin_169 : decode cX5_begin 169 = .ok (.iadd, 1) := by decide +kernel
theorem dX5_begin_170 : decode cX5_begin 170 = .ok (.invokevirtual 107, 3) := by decide +kernel
theorem dX5_begin_173 : decode cX5_begin 173 = .ok (.iconst 0, 1) := by decide +kernel
theorem dX5_begin_174 : decode cX5_begin 174 = .ok (.istore 4, 2) := by decide +kernel
theorem dX5_begin_176 : decode cX5_begin 176 = .ok (.iload 4, 2) := by decide +kernel
theorem dX5_begin_178 : decode cX5_begin 178 = .ok (.bipush 8, 2) := by decide +kernel
theorem dX5_begin_180 : decode cX5_begin 180 = .ok (.if_icmp .ge 28, 3) := by decide +kernel
theorem dX5_begin_183 : decode cX5_begin 183 = .ok (.aload_n 0, 1) := by decide +kernel
theorem dX5_begin_184 : decode cX5_begin 184 = .ok (.getfield 26, 3) := by decide +kernel
theorem dX5_begin_187 : decode cX5_begin 187 = .ok (.bipush 8, 2) := by decide +kernel
theorem dX5_begin_189 : decode cX5_begin 189 = .ok (.iload_n 1, 1) := by decide +kernel
theorem dX5_begin_190 : decode cX5_begin 190 = .ok (.imul, 1) := by decide +kernel
theorem dX5_begin_191 : decode cX5_begin 191 = .ok (.iload 4, 2) := by decide +kernel
theorem dX5_begin_193 : decode cX5_begin 193 = .ok (.iadd, 1) := by decide +kernel
theorem dX5_begin_194 : decode cX5_begin 194 = .ok (.aload_n 0, 1) := by decide +kernel
theorem dX5_begin_195 : decode cX5_begin 195 = .ok (.getfield 53, 3) := by decide +kernel
theorem dX5_begin_198 : decode cX5_begin 198 = .ok (.iload 4, 2) := by decide +kernel
theorem dX5_begin_200 : decode cX5_begin 200 = .ok (.iaload, 1) := by decide +kernel
theorem dX5_begin_201 : decode cX5_begin 201 = .ok (.iastore, 1) := by decide +kernel
theorem dX5_begin_202 : decode cX5_begin 202 = .ok (.iinc 4 1, 3) := by decide +kernel
theorem dX5_begin_205 : decode cX5_begin 205 = .ok (.goto (-29), 3) := by decide +kernel
theorem dX5_begin_208 : decode cX5_begin 208 = .ok (.iconst 0, 1) := by decide +kernel
theorem dX5_begin_209 : decode cX5_begin 209 = .ok (.ireturn, 1) := by decide +kernel
end
section
theorem dX5_wordAt_0 : decode cX5_wordAt 0 = .ok (.aload_n 0, 1) := by decide +kernel
theorem dX5_wordAt_1 : decode cX5_wordAt 1 = .ok (.iload_n 1, 1) := by decide +kernel
theorem dX5_wordAt_2 : decode cX5_wordAt 2 = .ok (.iaload, 1) := by decide +kernel
theorem dX5_wordAt_3 : decode cX5_wordAt 3 = .ok (.aload_n 0, 1) := by decide +kernel
theorem dX5_wordAt_4 : decode cX5_wordAt 4 = .ok (.iload_n 1, 1) := by decide +kernel
theorem dX5_wordAt_5 : decode cX5_wordAt 5 = .ok (.iconst 1, 1) := by decide +kernel
theorem dX5_wordAt_6 : decode cX5_wordAt 6 = .ok (.iadd, 1) := by decide +kernel
theorem dX5_wordAt_7 : decode cX5_wordAt 7 = .ok (.iaload, 1) := by decide +kernel
theorem dX5_wordAt_8 : decode cX5_wordAt 8 = .ok (.bipush 8, 2) := by decide +kernel
theorem dX5_wordAt_10 : decode cX5_wordAt 10 = .ok (.ishl, 1) := by decide +kernel
theorem dX5_wordAt_11 : decode cX5_wordAt 11 = .ok (.ior, 1) := by decide +kernel
theorem dX5_wordAt_12 : decode cX5_wordAt 12 = .ok (.aload_n 0, 1) := by decide +kernel
theorem dX5_wordAt_13 : decode cX5_wordAt 13 = .ok (.iload_n 1, 1) := by decide +kernel
theorem dX5_wordAt_14 : decode cX5_wordAt 14 = .ok (.iconst 2, 1) := by decide +kernel
theorem dX5_wordAt_15 : decode cX5_wordAt 15 = .ok (.iadd, 1) := by decide +kernel
theorem dX5_wordAt_16 : decode cX5_wordAt 16 = .ok (.iaload, 1) := by decide +kernel
theorem dX5_wordAt_17 : decode cX5_wordAt 17 = .ok (.bipush 16, 2) := by decide +kernel
theorem dX5_wordAt_19 : decode cX5_wordAt 19 = .ok (.ishl, 1) := by decide +kernel
theorem dX5_wordAt_20 : decode cX5_wordAt 20 = .ok (.ior, 1) := by decide +kernel
theorem dX5_wordAt_21 : decode cX5_wordAt 21 = .ok (.aload_n 0, 1) := by decide +kernel
theorem dX5_wordAt_22 : decode cX5_wordAt 22 = .ok (.iload_n 1, 1) := by decide +kernel
theorem dX5_wordAt_23 : decode cX5_wordAt 23 = .ok (.iconst 3, 1) := by decide +kernel
theorem dX5_wordAt_24 : decode cX5_wordAt 24 = .ok (.iadd, 1) := by decide +kernel
theorem dX5_wordAt_25 : decode cX5_wordAt 25 = .ok (.iaload, 1) := by decide +kernel
theorem dX5_wordAt_26 : decode cX5_wordAt 26 = .ok (.bipush 24, 2) := by decide +kernel
theorem dX5_wordAt_28 : decode cX5_wordAt 28 = .ok (.ishl, 1) := by decide +kernel
theorem dX5_wordAt_29 : decode cX5_wordAt 29 = .ok (.ior, 1) := by decide +kernel
theorem dX5_wordAt_30 : decode cX5_wordAt 30 = .ok (.ireturn, 1) := by decide +kernel
set_option maxRecDepth 20000 in
theorem ggX5_take_X5_isHasher : GoodIn wsX5_take wsX5_isHasher := goodIn_r _ [9] (by decide +kernel) (by decide +kernel)
set_option maxRecDepth 20000 in
theorem gX5_take_X5_isHasher : GoodIn wsX5_take (va_wsS RX5 153 yX5_isHasher wsX5_isHasher) := goodIn_app (goodIn_of _ (by decide +kernel)) ggX5_take_X5_isHasher
set_option maxRecDepth 20000 in
theorem ggX5_take_X5_isRegister : GoodIn wsX5_take wsX5_isRegister := goodIn_r _ [12] (by decide +kernel) (by decide +kernel)
set_option maxRecDepth 20000 in
theorem gX5_take_X5_isRegister : GoodIn wsX5_take (va_wsS RX5 147 yX5_isRegister wsX5_isRegister) := goodIn_app (goodIn_of _ (by decide +kernel)) ggX5_take_X5_isRegister
theorem dX5_take_0 : decode cX5_take 0 = .ok (.iload_n 1, 1) := by decide +kernel
theorem dX5_take_1 : decode cX5_take 1 = .ok (.invokestatic 153, 3) := by decide +kernel
theorem dX5_take_4 : decode cX5_take 4 = .ok (.ifCond .eq 10, 3) := by decide +kernel
theorem dX5_take_7 : decode cX5_take 7 = .ok (.iload_n 2, 1) := by decide +kernel
theorem dX5_take_8 : decode cX5_take 8 = .ok (.invokestatic 147, 3) := by decide +kernel
theorem dX5_take_11 : decode cX5_take 11 = .ok (.ifCond .ne 6, 3) := by decide +kernel
theorem dX5_take_14 : decode cX5_take 14 = .ok (.bipush (-2), 2) := by decide +kernel
theorem dX5_take_16 : decode cX5_take 16 = .ok (.ireturn, 1) := by decide +kernel
theorem dX5_take_17 : decode cX5_take 17 = .ok (.aload_n 0, 1) := by decide +kernel
theorem dX5_take_18 : decode cX5_take 18 = .ok (.getfield 20, 3) := by decide +kernel
theorem dX5_take_21 : decode cX5_take 21 = .ok (.iload_n 1, 1) := by decide +kernel
theorem dX5_take_22 : decode cX5_take 22 = .ok (.iaload, 1) := by decide +kernel
theorem dX5_take_23 : decode cX5_take 23 = .ok (.aload_n 0, 1) := by decide +kernel
theorem dX5_take_24 : decode cX5_take 24 = .ok (.getfield 13, 3) := by decide +kernel
theorem dX5_take_27 : decode cX5_take 27 = .ok (.iload_n 2, 1) := by decide +kernel
theorem dX5_take_28 : decode cX5_take 28 = .ok (.iaload, 1) := by decide +kernel
theorem dX5_take_29 : decode cX5_take 29 = .ok (.iadd, 1) := by decide +kernel
theorem dX5_take_30 : decode cX5_take 30 = .ok (.ldc 146, 2) := by decide +kernel
theorem dX5_take_32 : decode cX5_take 32 = .ok (.if_icmp .le 6, 3) := by decide +kernel
theorem dX5_take_35 : decode cX5_take 35 = .ok (.bipush (-3), 2) := by decide +kernel
theorem dX5_take_37 : decode cX5_take 37 = .ok (.ireturn, 1) := by decide +kernel
theorem dX5_take_38 : decode cX5_take 38 = .ok (.iconst 0, 1) := by decide +kernel
theorem dX5_take_39 : decode cX5_take 39 = .ok (.istore_n 3, 1) := by decide +kernel
theorem dX5_take_40 : decode cX5_take 40 = .ok (.iload_n 3, 1) := by decide +kernel
theorem dX5_take_41 : decode cX5_take 41 = .ok (.aload_n 0, 1) := by decide +kernel
theorem dX5_take_42 : decode cX5_take 42 = .ok (.getfield 13, 3) := by decide +kernel
theorem dX5_take_45 : decode cX5_take 45 = .ok (.iload_n 2, 1) := by decide +kernel
theorem dX5_take_46 : decode cX5_take 46 = .ok (.iaload, 1) := by decide +kernel
theorem dX5_take_47 : decode cX5_take 47 = .ok (.if_icmp .ge 47, 3) := by decide +kernel
theorem dX5_take_50 : decode cX5_take 50 = .ok (.aload_n 0, 1) := by decide +kernel
theorem dX5_take_51 : decode cX5_take 51 = .ok (.getfield 17, 3) := by decide +kernel
theorem dX5_take_54 : decode cX5_take 54 = .ok (.ldc 146, 2) := by decide +kernel
theorem dX5_take_56 : decode cX5_take 56 = .ok (.iload_n 1, 1) := by decide +kernel
theorem dX5_take_57 : decode cX5_take 57 = .ok (.imul, 1) := by decide +kernel
theorem dX5_take_58 : decode cX5_take 58 = .ok (.aload_n 0, 1) := by decide +kernel
theorem dX5_take_59 : decode cX5_take 59 = .ok (.getfield 20, 3) := by decide +kernel
theorem dX5_take_62 : decode cX5_take 62 = .ok (.iload_n 1, 1) := by decide +kernel
theorem dX5_take_63 : decode cX5_take 63 = .ok (.iaload, 1) := by decide +kernel
theorem dX5_take_64 : decode cX5_take 64 = .ok (.iadd, 1) := by decide +kernel
theorem dX5_take_65 : decode cX5_take 65 = .ok (.aload_n 0, 1) := by decide +kernel
theorem dX5_take_66 : decode cX5_take 66 = .ok (.getfield 7, 3) := by decide +kernel
theorem dX5_take_69 : decode cX5_take 69 = .ok (.sipush 200, 3) := by decide +kernel
theorem dX5_take_72 : decode cX5_take 72 = .ok (.iload_n 2, 1) := by decide +kernel
theorem dX5_take_73 : decode cX5_take 73 = .ok (.imul, 1) := by decide +kernel
theorem dX5_take_74 : decode cX5_take 74 = .ok (.iload_n 3, 1) := by decide +kernel
theorem dX5_take_75 : decode cX5_take 75 = .ok (.iadd, 1) := by decide +kernel
theorem dX5_take_76 : decode cX5_take 76 = .ok (.iaload, 1) := by decide +kernel
theorem dX5_take_77 : decode cX5_take 77 = .ok (.iastore, 1) := by decide +kernel
theorem dX5_take_78 : decode cX5_take 78 = .ok (.aload_n 0, 1) := by decide +kernel
theorem dX5_take_79 : decode cX5_take 79 = .ok (.getfield 20, 3) := by decide +kernel
theorem dX5_take_82 : decode cX5_take 82 = .ok (.iload_n 1, 1) := by decide +kernel
theorem dX5_take_83 : decode cX5_take 83 = .ok (.dup2, 1) := by decide +kernel
theorem dX5_take_84 : decode cX5_take 84 = .ok (.iaload, 1) := by decide +kernel
theorem dX5_take_85 : decode cX5_take 85 = .ok (.iconst 1, 1) := by decide +kernel
theorem dX5_take_86 : decode cX5_take 86 = .ok (.iadd, 1) := by decide +kernel
theorem dX5_take_87 : decode cX5_take 87 = .ok (.iastore, 1) := by decide +kernel
theorem dX5_take_88 : decode cX5_take 88 = .ok (.iinc 3 1, 3) := by decide +kernel
theorem dX5_take_91 : decode cX5_take 91 = .ok (.goto (-51), 3) := by decide +kernel
theorem dX5_take_94 : decode cX5_take 94 = .ok (.aload_n 0, 1) := by decide +kernel
theorem dX5_take_95 : decode cX5_take 95 = .ok (.getfield 20, 3) := by decide +kernel
theorem dX5_take_98 : decode cX5_take 98 = .ok (.iload_n 1, 1) := by decide +kernel
theorem dX5_take_99 : decode cX5_take 99 = .ok (.iaload, 1) := by decide +kernel
theorem dX5_take_100 : decode cX5_take 100 = .ok (.ireturn, 1) := by decide +kernel
set_option maxRecDepth 20000 in
theorem ggX5_fill_X5_isHasher : GoodIn wsX5_fill wsX5_isHasher := goodIn_r _ [7] (by decide +kernel) (by decide +kernel)
set_option maxRecDepth 20000 in
theorem gX5_fill_X5_isHasher : GoodIn wsX5_fill (va_wsS RX5 153 yX5_isHasher wsX5_isHasher) := goodIn_app (goodIn_of _ (by decide +kernel)) ggX5_fill_X5_isHasher
theorem dX5_fill_0 : decode cX5_fill 0 = .ok (.iload_n 1, 1) := by decide +kernel
theorem dX5_fill_1 : decode cX5_fill 1 = .ok (.invokestatic 153, 3) := by decide +kernel
theorem dX5_fill_4 : decode cX5_fill 4 = .ok (.ifCond .eq 14, 3) := by decide +kernel
theorem dX5_fill_7 : decode cX5_fill 7 = .ok (.iload_n 2, 1) := by decide +kernel
theorem dX5_fill_8 : decode cX5_fill 8 = .ok (.ifCond .lt 10, 3) := by decide +kernel
theorem dX5_fill_11 : decode cX5_fill 11 = .ok (.iload_n 2, 1) := by decide +kernel
theorem dX5_fill_12 : decode cX5_fill 12 = .ok (.sipush 5000, 3) := by decide +kernel
theorem dX5_fill_15 : decode cX5_fill 15 = .ok (.if_icmp .le 6, 3) := by decide +kernel
theorem dX5_fill_18 : decode cX5_fill 18 = .ok (.bipush (-2), 2) := by decide +kernel
theorem dX5_fill_20 : decode cX5_fill 20 = .ok (.ireturn, 1) := by decide +kernel
theorem dX5_fill_21 : decode cX5_fill 21 = .ok (.aload_n 0, 1) := by decide +kernel
theorem dX5_fill_22 : decode cX5_fill 22 = .ok (.getfield 20, 3) := by decide +kernel
theorem dX5_fill_25 : decode cX5_fill 25 = .ok (.iload_n 1, 1) := by decide +kernel
theorem dX5_fill_26 : decode cX5_fill 26 = .ok (.iaload, 1) := by decide +kernel
theorem dX5_fill_27 : decode cX5_fill 27 = .ok (.iload_n 2, 1) := by decide +kernel
theorem dX5_fill_28 : decode cX5_fill 28 = .ok (.iadd, 1) := by decide +kernel
theorem dX5_fill_29 : decode cX5_fill 29 = .ok (.ldc 146, 2) := by decide +kernel
theorem dX5_fill_31 : decode cX5_fill 31 = .ok (.if_icmp .le 6, 3) := by decide +kernel
theorem dX5_fill_34 : decode cX5_fill 34 = .ok (.bipush (-3), 2) := by decide +kernel
theorem dX5_fill_36 : decode cX5_fill 36 = .ok (.ireturn, 1) := by decide +kernel
theorem dX5_fill_37 : decode cX5_fill 37 = .ok (.iconst 0, 1) := by decide +kernel
theorem dX5_fill_38 : decode cX5_fill 38 = .ok (.istore 5, 2) := by decide +kernel
theorem dX5_fill_40 : decode cX5_fill 40 = .ok (.iload 5, 2) := by decide +kernel
theorem dX5_fill_42 : decode cX5_fill 42 = .ok (.iload_n 2, 1) := by decide +kernel
theorem dX5_fill_43 : decode cX5_fill 43 = .ok (.if_icmp .ge 46, 3) := by decide +kernel
theorem dX5_fill_46 : decode cX5_fill 46 = .ok (.aload_n 0, 1) := by decide +kernel
theorem dX5_fill_47 : decode cX5_fill 47 = .ok (.getfield 17, 3) := by decide +kernel
theorem dX5_fill_50 : decode cX5_fill 50 = .ok (.ldc 146, 2) := by decide +kernel
theorem dX5_fill_52 : decode cX5_fill 52 = .ok (.iload_n 1, 1) := by decide +kernel
theorem dX5_fill_53 : decode cX5_fill 53 = .ok (.imul, 1) := by decide +kernel
theorem dX5_fill_54 : decode cX5_fill 54 = .ok (.aload_n 0, 1) := by decide +kernel
theorem dX5_fill_55 : decode cX5_fill 55 = .ok (.getfield 20, 3) := by decide +kernel
theorem dX5_fill_58 : decode cX5_fill 58 = .ok (.iload_n 1, 1) := by decide +kernel
theorem dX5_fill_59 : decode cX5_fill 59 = .ok (.iaload, 1) := by decide +kernel
theorem dX5_fill_60 : decode cX5_fill 60 = .ok (.iadd, 1) := by decide +kernel
theorem dX5_fill_61 : decode cX5_fill 61 = .ok (.iload_n 3, 1) := by decide +kernel
theorem dX5_fill_62 : decode cX5_fill 62 = .ok (.iload 5, 2) := by decide +kernel
theorem dX5_fill_64 : decode cX5_fill 64 = .ok (.iload 4, 2) := by decide +kernel
theorem dX5_fill_66 : decode cX5_fill 66 = .ok (.imul, 1) := by decide +kernel
theorem dX5_fill_67 : decode cX5_fill 67 = .ok (.iadd, 1) := by decide +kernel
theorem dX5_fill_68 : decode cX5_fill 68 = .ok (.sipush 255, 3) := by decide +kernel
theorem dX5_fill_71 : decode cX5_fill 71 = .ok (.iand, 1) := by decide +kernel
theorem dX5_fill_72 : decode cX5_fill 72 = .ok (.iastore, 1) := by decide +kernel
theorem dX5_fill_73 : decode cX5_fill 73 = .ok (.aload_n 0, 1) := by decide +kernel
theorem dX5_fill_74 : decode cX5_fill 74 = .ok (.getfield 20, 3) := by decide +kernel
theorem dX5_fill_77 : decode cX5_fill 77 = .ok (.iload_n 1, 1) := by decide +kernel
theorem dX5_fill_78 : decode cX5_fill 78 = .ok (.dup2, 1) := by decide +kernel
theorem dX5_fill_79 : decode cX5_fill 79 = .ok (.iaload, 1) := by decide +kernel
theorem dX5_fill_80 : decode cX5_fill 80 = .ok (.iconst 1, 1) := by decide +kernel
theorem dX5_fill_81 : decode cX5_fill 81 = .ok (.iadd, 1) := by decide +kernel
theorem dX5_fill_82 : decode cX5_fill 82 = .ok (.iastore, 1) := by decide +kernel
theorem dX5_fill_83 : decode cX5_fill 83 = .ok (.iinc 5 1, 3) := by decide +kernel
theorem dX5_fill_86 : decode cX5_fill 86 = .ok (.goto (-46), 3) := by decide +kernel
theorem dX5_fill_89 : decode cX5_fill 89 = .ok (.aload_n 0, 1) := by decide +kernel
theorem dX5_fill_90 : decode cX5_fill 90 = .ok (.getfield 20, 3) := by decide +kernel
theorem dX5_fill_93 : decode cX5_fill 93 = .ok (.iload_n 1, 1) := by decide +kernel
theorem dX5_fill_94 : decode cX5_fill 94 = .ok (.iaload, 1) := by decide +kernel
theorem dX5_fill_95 : decode cX5_fill 95 = .ok (.ireturn, 1) := by decide +kernel
set_option maxRecDepth 20000 in
theorem ggX5_rootOf_X5_pileOf : GoodIn wsX5_rootOf wsX5_pileOf := goodIn_r _ [9, 10, 1, 2, 11, 12, 13, 14, 15, 8, 16, 17, 18, 19, 20, 21, 22, 23, 24, 25, 3, 26, 27, 28, 29, 30, 31, 32, 33, 34, 35, 36, 37, 38, 39, 40, 41, 42, 43, 44, 45, 46, 47, 48, 49, 50, 51, 52, 53, 54, 55, 56, 4, 57, 58, 59, 60, 61, 62, 63, 64, 65, 66, 67, 68, 69, 70, 71, 72, 73, 74, 75, 76, 77, 78, 79, 80, 81, 82, 83, 84, 85, 86, 87, 88, 89, 90, 91, 92, 93, 94] (by decide +kernel) (by decide +kernel)
set_option maxRecDepth 20000 in
theorem gX5_rootOf_X5_pileOf : GoodIn wsX5_rootOf (wsV RX5 160 RX5 yX5_pileOf wsX5_pileOf) := goodIn_app (goodIn_of _ (by decide +kernel)) ggX5_rootOf_X5_pileOf
set_option maxRecDepth 20000 in
theorem ggX5_rootOf_X5_closedOf : GoodIn wsX5_rootOf wsX5_closedOf := goodIn_r _ [25, 3, 67, 68, 69, 70, 71, 72, 73, 74, 75, 76, 77, 78, 79, 80, 81, 82, 83, 84, 85, 86, 87, 88, 89, 90, 91, 92, 93, 94] (by decide +kernel) (by decide +kernel)
set_option maxRecDepth 20000 in
theorem gX5_rootOf_X5_closedOf : GoodIn wsX5_rootOf (wsV RX5 142 RX5 yX5_closedOf wsX5_closedOf) := goodIn_app (goodIn_of _ (by decide +kernel)) ggX5_rootOf_X5_closedOf
set_option maxRecDepth 20000 in
theorem ggX5_rootOf_X5_chunk : GoodIn wsX5_rootOf wsX5_chunk := goodIn_r _ [29, 12, 17, 30, 31, 32, 21, 33, 34, 35, 36, 8, 37, 38, 39, 40, 41, 42, 18, 43, 44, 45, 46, 47, 48, 49, 50, 51, 52, 67, 68, 69, 70, 71, 72, 73, 74, 75, 76, 77, 78, 79, 80, 81, 82, 83, 84, 85, 86, 87, 88, 89, 90, 91, 92, 93, 94] (by decide +kernel) (by decide +kernel)
set_option maxRecDepth 20000 in
theorem gX5_rootOf_X5_chunk : GoodIn wsX5_rootOf (wsV RX5 132 RX5 yX5_chunk wsX5_chunk) := goodIn_app (goodIn_of _ (by decide +kernel)) ggX5_rootOf_X5_chunk
set_option maxRecDepth 20000 in
theorem ggX5_rootOf_X5_mixIn : GoodIn wsX5_rootOf wsX5_mixIn := goodIn_r _ [37, 30, 33, 12, 38, 39, 40, 41, 8, 42, 18, 31, 43, 32, 44, 45, 46, 47, 48, 49, 50, 51, 52, 67, 68, 69, 70, 71, 72, 73, 74, 75, 76, 77, 78, 79, 80, 81, 82, 83, 84, 85, 86, 87, 88, 89, 90, 91, 92, 93, 94] (by decide +kernel) (by decide +kernel)
set_option maxRecDepth 20000 in
theorem gX5_rootOf_X5_mixIn : GoodIn wsX5_rootOf (wsV RX5 111 RX5 yX5_mixIn wsX5_mixIn) := goodIn_app (goodIn_of _ (by decide +kernel)) ggX5_rootOf_X5_mixIn
set_option maxRecDepth 20000 in
theorem ggX5_rootOf_X5_parent : GoodIn wsX5_rootOf wsX5_parent := goodIn_r _ [66, 4, 32, 62, 12, 17, 30, 31, 21, 33, 67, 68, 69, 70, 71, 72, 73, 74, 75, 76, 77, 78, 79, 80, 81, 82, 83, 84, 85, 86, 87, 88, 89, 90, 91, 92, 93, 94] (by decide +kernel) (by decide +kernel)
set_option maxRecDepth 20000 in
theorem gX5_rootOf_X5_parent : GoodIn wsX5_rootOf (wsV RX5 123 RX5 yX5_parent wsX5_parent) := goodIn_app (goodIn_of _ (by decide +kernel)) ggX5_rootOf_X5_parent
theorem dX5_rootOf_0 : decode cX5_rootOf 0 = .ok (.aload_n 0, 1) := by decide +kernel
theorem dX5_rootOf_1 : decode cX5_rootOf 1 = .ok (.iload_n 1, 1) := by decide +kernel
theorem dX5_rootOf_2 : decode cX5_rootOf 2 = .ok (.invokevirtual 160, 3) := by decide +kernel
theorem dX5_rootOf_5 : decode cX5_rootOf 5 = .ok (.aload_n 0, 1) := by decide +kernel
theorem dX5_rootOf_6 : decode cX5_rootOf 6 = .ok (.iload_n 1, 1) := by decide +kernel
theorem dX5_rootOf_7 : decode cX5_rootOf 7 = .ok (.invokevirtual 142, 3) := by decide +kernel
theorem dX5_rootOf_10 : decode cX5_rootOf 10 = .ok (.istore_n 2, 1) := by decide +kernel
theorem dX5_rootOf_11 : decode cX5_rootOf 11 = .ok (.aload_n 0, 1) := by decide +kernel
theorem dX5_rootOf_12 : decode cX5_rootOf 12 = .ok (.aload_n 0, 1) := by decide +kernel
theorem dX5_rootOf_13 : decode cX5_rootOf 13 = .ok (.getfield 17, 3) := by decide +kernel
theorem dX5_rootOf_16 : decode cX5_rootOf 16 = .ok (.ldc 146, 2) := by decide +kernel
theorem dX5_rootOf_18 : decode cX5_rootOf 18 = .ok (.iload_n 1, 1) := by decide +kernel
theorem dX5_rootOf_19 : decode cX5_rootOf 19 = .ok (.imul, 1) := by decide +kernel
theorem dX5_rootOf_20 : decode cX5_rootOf 20 = .ok (.sipush 1024, 3) := by decide +kernel
theorem dX5_rootOf_23 : decode cX5_rootOf 23 = .ok (.iload_n 2, 1) := by decide +kernel
theorem dX5_rootOf_24 : decode cX5_rootOf 24 = .ok (.imul, 1) := by decide +kernel
theorem dX5_rootOf_25 : decode cX5_rootOf 25 = .ok (.iadd, 1) := by decide +kernel
theorem dX5_rootOf_26 : decode cX5_rootOf 26 = .ok (.aload_n 0, 1) := by decide +kernel
theorem dX5_rootOf_27 : decode cX5_rootOf 27 = .ok (.getfield 20, 3) := by decide +kernel
theorem dX5_rootOf_30 : decode cX5_rootOf 30 = .ok (.iload_n 1, 1) := by decide +kernel
theorem dX5_rootOf_31 : decode cX5_rootOf 31 = .ok (.iaload, 1) := by decide +kernel
theorem dX5_rootOf_32 : decode cX5_rootOf 32 = .ok (.sipush 1024, 3) := by decide +kernel
theorem dX5_rootOf_35 : decode cX5_rootOf 35 = .ok (.iload_n 2, 1) := by decide +kernel
theorem dX5_rootOf_36 : decode cX5_rootOf 36 = .ok (.imul, 1) := by decide +kernel
theorem dX5_rootOf_37 : decode cX5_rootOf 37 = .ok (.isub, 1) := by decide +kernel
theorem dX5_rootOf_38 : decode cX5_rootOf 38 = .ok (.iload_n 2, 1) := by decide +kernel
theorem dX5_rootOf_39 : decode cX5_rootOf 39 = .ok (.i2l, 1) := by decide +kernel
theorem dX5_rootOf_40 : decode cX5_rootOf 40 = .ok (.invokevirtual 132, 3) := by decide +kernel
theorem dX5_rootOf_43 : decode cX5_rootOf 43 = .ok (.aload_n 0, 1) := by decide +kernel
theorem dX5_rootOf_44 : decode cX5_rootOf 44 = .ok (.getfield 117, 3) := by decide +kernel
theorem dX5_rootOf_47 : decode cX5_rootOf 47 = .ok (.ifCond .le 14, 3) := by decide +kernel
theorem dX5_rootOf_50 : decode cX5_rootOf 50 = .ok (.aload_n 0, 1) := by decide +kernel
theorem dX5_rootOf_51 : decode cX5_rootOf 51 = .ok (.invokevirtual 111, 3) := by decide +kernel
theorem dX5_rootOf_54 : decode cX5_rootOf 54 = .ok (.aload_n 0, 1) := by decide +kernel
theorem dX5_rootOf_55 : decode cX5_rootOf 55 = .ok (.invokevirtual 123, 3) := by decide +kernel
theorem dX5_rootOf_58 : decode cX5_rootOf 58 = .ok (.goto (-15), 3) := by decide +kernel
theorem dX5_rootOf_61 : decode cX5_rootOf 61 = .ok (.return_, 1) := by decide +kernel
set_option maxRecDepth 20000 in
theorem ggX5_output_X5_isHasher : GoodIn wsX5_output wsX5_isHasher := goodIn_r _ [12] (by decide +kernel) (by decide +kernel)
set_option maxRecDepth 20000 in
theorem gX5_output_X5_isHasher : GoodIn wsX5_output (va_wsS RX5 153 yX5_isHasher wsX5_isHasher) := goodIn_app (goodIn_of _ (by decide +kernel)) ggX5_output_X5_isHasher
set_option maxRecDepth 20000 in
theorem ggX5_output_X5_isRegister : GoodIn wsX5_output wsX5_isRegister := goodIn_r _ [15] (by decide +kernel) (by decide +kernel)
set_option maxRecDepth 20000 in
theorem gX5_output_X5_isRegister : GoodIn wsX5_output (va_wsS RX5 147 yX5_isRegister wsX5_isRegister) := goodIn_app (goodIn_of _ (by decide +kernel)) ggX5_output_X5_isRegister
set_option maxRecDepth 20000 in
theorem ggX5_output_X5_in : GoodIn wsX5_output wsX5_in := goodIn_r _ [18] (by decide +kernel) (by decide +kernel)
set_option maxRecDepth 20000 in
theorem gX5_output_X5_in : GoodIn wsX5_output (va_wsS RX5 165 yX5_in wsX5_in) := goodIn_app (goodIn_of _ (by decide +kernel)) ggX5_output_X5_in
set_option maxRecDepth 20000 in
theorem ggX5_output_X5_rootOf : GoodIn wsX5_output wsX5_rootOf := goodIn_r _ [22, 23, 24, 25, 26, 27, 28, 29, 11, 30, 31, 32, 33, 34, 35, 36, 37, 38, 39, 40, 41, 42, 43, 44, 45, 46, 47, 48, 49, 50, 51, 52, 53, 4, 54, 55, 56, 57, 5, 58, 59, 60, 61, 62, 63, 64, 65, 66, 67, 68, 69, 70, 71, 72, 73, 74, 75, 76, 77, 78, 79, 80, 81, 82, 83, 84, 85, 86, 87, 88, 89, 90, 91, 92, 93, 94, 95, 96, 97, 98, 99, 100, 101, 102, 103, 104, 105, 106, 107, 108, 109, 110, 111, 112, 113] (by decide +kernel) (by decide +kernel)
set_option maxRecDepth 20000 in
theorem gX5_output_X5_rootOf : GoodIn wsX5_output (wsV RX5 169 RX5 yX5_rootOf wsX5_rootOf) := goodIn_app (goodIn_of _ (by decide +kernel)) ggX5_output_X5_rootOf
set_option maxRecDepth 20000 in
theorem ggX5_output_X5_mix : GoodIn wsX5_output wsX5_mix := goodIn_r _ [61, 5, 33, 39, 52, 62, 53, 63, 64, 65, 66, 67, 11, 68, 69, 70, 71, 86, 87, 88, 89, 90, 91, 92, 93, 94, 95, 96, 97, 98, 99, 100, 101, 102, 103, 104, 105, 106, 107, 108, 109, 110, 111, 112, 113] (by decide +kernel) (by decide +kernel)
set_option maxRecDepth 20000 in
theorem gX5_output_X5_mix : GoodIn wsX5_output (wsV RX5 107 RX5 yX5_mix wsX5_mix) := goodIn_app (goodIn_of _ (by decide +kernel)) ggX5_output_X5_mix
theorem dX5_output_0 : decode cX5_output 0 = .ok (.iload_n 1, 1) := by decide +kernel
theorem dX5_output_1 : decode cX5_output 1 = .ok (.invokestatic 153, 3) := by decide +kernel
theorem dX5_output_4 : decode cX5_output 4 = .ok (.ifCond .eq 33, 3) := by decide +kernel
theorem dX5_output_7 : decode cX5_output 7 = .ok (.iload_n 2, 1) := by decide +kernel
theorem dX5_output_8 : decode cX5_output 8 = .ok (.invokestatic 147, 3) := by decide +kernel
theorem dX5_output_11 : decode cX5_output 11 = .ok (.ifCond .eq 26, 3) := by decide +kernel
theorem dX5_output_14 : decode cX5_output 14 = .ok (.iload_n 3, 1) := by decide +kernel
theorem dX5_output_15 : decode cX5_output 15 = .ok (.ifCond .lt 22, 3) := by decide +kernel
theorem dX5_output_18 : decode cX5_output 18 = .ok (.iload_n 3, 1) := by decide +kernel
theorem dX5_output_19 : decode cX5_output 19 = .ok (.sipush 200, 3) := by decide +kernel
theorem dX5_output_22 : decode cX5_output 22 = .ok (.if_icmp .gt 15, 3) := by decide +kernel
theorem dX5_output_25 : decode cX5_output 25 = .ok (.lload 4, 2) := by decide +kernel
theorem dX5_output_27 : decode cX5_output 27 = .ok (.lconst 0, 1) := by decide +kernel
theorem dX5_output_28 : decode cX5_output 28 = .ok (.ldc2_w 163, 3) := by decide +kernel
theorem dX5_output_31 : decode cX5_output 31 = .ok (.invokestatic 165, 3) := by decide +kernel
theorem dX5_output_34 : decode cX5_output 34 = .ok (.ifCond .ne 6, 3) := by decide +kernel
theorem dX5_output_37 : decode cX5_output 37 = .ok (.bipush (-2), 2) := by decide +kernel
theorem dX5_output_39 : decode cX5_output 39 = .ok (.ireturn, 1) := by decide +kernel
theorem dX5_output_40 : decode cX5_output 40 = .ok (.aload_n 0, 1) := by decide +kernel
theorem dX5_output_41 : decode cX5_output 41 = .ok (.iload_n 1, 1) := by decide +kernel
theorem dX5_output_42 : decode cX5_output 42 = .ok (.invokevirtual 169, 3) := by decide +kernel
theorem dX5_output_45 : decode cX5_output 45 = .ok (.ldc2_w 172, 3) := by decide +kernel
theorem dX5_output_48 : decode cX5_output 48 = .ok (.lstore 6, 2) := by decide +kernel
theorem dX5_output_50 : decode cX5_output 50 = .ok (.iconst 0, 1) := by decide +kernel
theorem dX5_output_51 : decode cX5_output 51 = .ok (.istore 8, 2) := by decide +kernel
theorem dX5_output_53 : decode cX5_output 53 = .ok (.iload 8, 2) := by decide +kernel
theorem dX5_output_55 : decode cX5_output 55 = .ok (.iload_n 3, 1) := by decide +kernel
theorem dX5_output_56 : decode cX5_output 56 = .ok (.if_icmp .ge 96, 3) := by decide +kernel
theorem dX5_output_59 : decode cX5_output 59 = .ok (.lload 4, 2) := by decide +kernel
theorem dX5_output_61 : decode cX5_output 61 = .ok (.iload 8, 2) := by decide +kernel
theorem dX5_output_63 : decode cX5_output 63 = .ok (.i2l, 1) := by decide +kernel
theorem dX5_output_64 : decode cX5_output 64 = .ok (.ladd, 1) := by decide +kernel
theorem dX5_output_65 : decode cX5_output 65 = .ok (.lstore 9, 2) := by decide +kernel
theorem dX5_output_67 : decode cX5_output 67 = .ok (.lload 9, 2) := by decide +kernel
theorem dX5_output_69 : decode cX5_output 69 = .ok (.ldc2_w 174, 3) := by decide +kernel
theorem dX5_output_72 : decode cX5_output 72 = .ok (.ldiv, 1) := by decide +kernel
theorem dX5_output_73 : decode cX5_output 73 = .ok (.lload 6, 2) := by decide +kernel
theorem dX5_output_75 : decode cX5_output 75 = .ok (.lcmp, 1) := by decide +kernel
theorem dX5_output_76 : decode cX5_output 76 = .ok (.ifCond .eq 24, 3) := by decide +kernel
theorem dX5_output_79 : decode cX5_output 79 = .ok (.lload 9, 2) := by decide +kernel
theorem dX5_output_81 : decode cX5_output 81 = .ok (.ldc2_w 174, 3) := by decide +kernel
theorem dX5_output_84 : decode cX5_output 84 = .ok (.ldiv, 1) := by decide +kernel
theorem dX5_output_85 : decode cX5_output 85 = .ok (.lstore 6, 2) := by decide +kernel
theorem dX5_output_87 : decode cX5_output 87 = .ok (.aload_n 0, 1) := by decide +kernel
theorem dX5_output_88 : decode cX5_output 88 = .ok (.lload 6, 2) := by decide +kernel
theorem dX5_output_90 : decode cX5_output 90 = .ok (.aload_n 0, 1) := by decide +kernel
theorem dX5_output_91 : decode cX5_output 91 = .ok (.getfield 104, 3) := by decide +kernel
theorem dX5_output_94 : decode cX5_output 94 = .ok (.bipush 8, 2) := by decide +kernel
theorem dX5_output_96 : decode cX5_output 96 = .ok (.iadd, 1) := by decide +kernel
theorem dX5_output_97 : decode cX5_output 97 = .ok (.invokevirtual 107, 3) := by decide +kernel
theorem dX5_output_100 : decode cX5_output 100 = .ok (.aload_n 0, 1) := by decide +kernel
theorem dX5_output_101 : decode cX5_output 101 = .ok (.getfield 53, 3) := by decide +kernel
theorem dX5_output_104 : decode cX5_output 104 = .ok (.lload 9, 2) := by decide +kernel
theorem dX5_output_106 : decode cX5_output 106 = .ok (.ldc2_w 174, 3) := by decide +kernel
theorem dX5_output_109 : decode cX5_output 109 = .ok (.lrem, 1) := by decide +kernel
theorem dX5_output_110 : decode cX5_output 110 = .ok (.l2i, 1) := by decide +kernel
theorem dX5_output_111 : decode cX5_output 111 = .ok (.iconst 4, 1) := by decide +kernel
theorem dX5_output_112 : decode cX5_output 112 = .ok (.idiv, 1) := by decide +kernel
theorem dX5_output_113 : decode cX5_output 113 = .ok (.iaload, 1) := by decide +kernel
theorem dX5_output_114 : decode cX5_output 114 = .ok (.istore 11, 2) := by decide +kernel
theorem dX5_output_116 : decode cX5_output 116 = .ok (.aload_n 0, 1) := by decide +kernel
theorem dX5_output_117 : decode cX5_output 117 = .ok (.getfield 7, 3) := by decide +kernel
theorem dX5_output_120 : decode cX5_output 120 = .ok (.sipush 200, 3) := by decide +kernel
theorem dX5_output_123 : decode cX5_output 123 = .ok (.iload_n 2, 1) := by decide +kernel
theorem dX5_output_124 : decode cX5_output 124 = .ok (.imul, 1) := by decide +kernel
theorem dX5_output_125 : decode cX5_output 125 = .ok (.iload 8, 2) := by decide +kernel
theorem dX5_output_127 : decode cX5_output 127 = .ok (.iadd, 1) := by decide +kernel
theorem dX5_output_128 : decode cX5_output 128 = .ok (.iload 11, 2) := by decide +kernel
theorem dX5_output_130 : decode cX5_output 130 = .ok (.bipush 8, 2) := by decide +kernel
theorem dX5_output_132 : decode cX5_output 132 = .ok (.lload 9, 2) := by decide +kernel
theorem dX5_output_134 : decode cX5_output 134 = .ok (.ldc2_w 176, 3) := by decide +kernel
theorem dX5_output_137 : decode cX5_output 137 = .ok (.lrem, 1) := by decide +kernel
theorem dX5_output_138 : decode cX5_output 138 = .ok (.l2i, 1) := by decide +kernel
theorem dX5_output_139 : decode cX5_output 139 = .ok (.imul, 1) := by decide +kernel
theorem dX5_output_140 : decode cX5_output 140 = .ok (.ishr, 1) := by decide +kernel
theorem dX5_output_141 : decode cX5_output 141 = .ok (.sipush 255, 3) := by decide +kernel
theorem dX5_output_144 : decode cX5_output 144 = .ok (.iand, 1) := by decide +kernel
theorem dX5_output_145 : decode cX5_output 145 = .ok (.iastore, 1) := by decide +kernel
theorem dX5_output_146 : decode cX5_output 146 = .ok (.iinc 8 1, 3) := by decide +kernel
theorem dX5_output_149 : decode cX5_output 149 = .ok (.goto (-96), 3) := by decide +kernel
theorem dX5_output_152 : decode cX5_output 152 = .ok (.aload_n 0, 1) := by decide +kernel
theorem dX5_output_153 : decode cX5_output 153 = .ok (.getfield 13, 3) := by decide +kernel
theorem dX5_output_156 : decode cX5_output 156 = .ok (.iload_n 2, 1) := by decide +kernel
theorem dX5_output_157 : decode cX5_output 157 = .ok (.iload_n 3, 1) := by decide +kernel
theorem dX5_output_158 : decode cX5_output 158 = .ok (.iastore, 1) := by decide +kernel
theorem dX5_output_159 : decode cX5_output 159 = .ok (.iload_n 3, 1) := by decide +kernel
theorem dX5_output_160 : decode cX5_output 160 = .ok (.ireturn, 1) := by decide +kernel
set_option maxRecDepth 20000 in
theorem ggX5_copy_X5_isHasher : GoodIn wsX5_copy wsX5_isHasher := goodIn_r _ [11] (by decide +kernel) (by decide +kernel)
set_option maxRecDepth 20000 in
theorem gX5_copy_X5_isHasher : GoodIn wsX5_copy (va_wsS RX5 153 yX5_isHasher wsX5_isHasher) := goodIn_app (goodIn_of _ (by decide +kernel)) ggX5_copy_X5_isHasher
theorem dX5_copy_0 : decode cX5_copy 0 = .ok (.iload_n 1, 1) := by decide +kernel
theorem dX5_copy_1 : decode cX5_copy 1 = .ok (.invokestatic 153, 3) := by decide +kernel
theorem dX5_copy_4 : decode cX5_copy 4 = .ok (.ifCond .eq 10, 3) := by decide +kernel
theorem dX5_copy_7 : decode cX5_copy 7 = .ok (.iload_n 2, 1) := by decide +kernel
theorem dX5_copy_8 : decode cX5_copy 8 = .ok (.invokestatic 153, 3) := by decide +kernel
theorem dX5_copy_11 : decode cX5_copy 11 = .ok (.ifCond .ne 6, 3) := by decide +kernel
theorem dX5_copy_14 : decode cX5_copy 14 = .ok (.bipush (-2), 2) := by decide +kernel
theorem dX5_copy_16 : decode cX5_copy 16 = .ok (.ireturn, 1) := by decide +kernel
theorem dX5_copy_17 : decode cX5_copy 17 = .ok (.iconst 0, 1) := by decide +kernel
theorem dX5_copy_18 : decode cX5_copy 18 = .ok (.istore_n 3, 1) := by decide +kernel
theorem dX5_copy_19 : decode cX5_copy 19 = .ok (.iload_n 3, 1) := by decide +kernel
theorem dX5_copy_20 : decode cX5_copy 20 = .ok (.aload_n 0, 1) := by decide +kernel
theorem dX5_copy_21 : decode cX5_copy 21 = .ok (.getfield 20, 3) := by decide +kernel
theorem dX5_copy_24 : decode cX5_copy 24 = .ok (.iload_n 1, 1) := by decide +kernel
theorem dX5_copy_25 : decode cX5_copy 25 = .ok (.iaload, 1) := by decide +kernel
theorem dX5_copy_26 : decode cX5_copy 26 = .ok (.if_icmp .ge 31, 3) := by decide +kernel
theorem dX5_copy_29 : decode cX5_copy 29 = .ok (.aload_n 0, 1) := by decide +kernel
theorem dX5_copy_30 : decode cX5_copy 30 = .ok (.getfield 17, 3) := by decide +kernel
theorem dX5_copy_33 : decode cX5_copy 33 = .ok (.ldc 146, 2) := by decide +kernel
theorem dX5_copy_35 : decode cX5_copy 35 = .ok (.iload_n 2, 1) := by decide +kernel
theorem dX5_copy_36 : decode cX5_copy 36 = .ok (.imul, 1) := by decide +kernel
theorem dX5_copy_37 : decode cX5_copy 37 = .ok (.iload_n 3, 1) := by decide +kernel
theorem dX5_copy_38 : decode cX5_copy 38 = .ok (.iadd, 1) := by decide +kernel
theorem dX5_copy_39 : decode cX5_copy 39 = .ok (.aload_n 0, 1) := by decide +kernel
theorem dX5_copy_40 : decode cX5_copy 40 = .ok (.getfield 17, 3) := by decide +kernel
theorem dX5_copy_43 : decode cX5_copy 43 = .ok (.ldc 146, 2) := by decide +kernel
theorem dX5_copy_45 : decode cX5_copy 45 = .ok (.iload_n 1, 1) := by decide +kernel
theorem dX5_copy_46 : decode cX5_copy 46 = .ok (.imul, 1) := by decide +kernel
theorem dX5_copy_47 : decode cX5_copy 47 = .ok (.iload_n 3, 1) := by decide +kernel
theorem dX5_copy_48 : decode cX5_copy 48 = .ok (.iadd, 1) := by decide +kernel
theorem dX5_copy_49 : decode cX5_copy 49 = .ok (.iaload, 1) := by decide +kernel
theorem dX5_copy_50 : decode cX5_copy 50 = .ok (.iastore, 1) := by decide +kernel
theorem dX5_copy_51 : decode cX5_copy 51 = .ok (.iinc 3 1, 3) := by decide +kernel
theorem dX5_copy_54 : decode cX5_copy 54 = .ok (.goto (-35), 3) := by decide +kernel
theorem dX5_copy_57 : decode cX5_copy 57 = .ok (.iconst 0, 1) := by decide +kernel
theorem dX5_copy_58 : decode cX5_copy 58 = .ok (.istore_n 3, 1) := by decide +kernel
theorem dX5_copy_59 : decode cX5_copy 59 = .ok (.iload_n 3, 1) := by decide +kernel
theorem dX5_copy_60 : decode cX5_copy 60 = .ok (.bipush 8, 2) := by decide +kernel
theorem dX5_copy_62 : decode cX5_copy 62 = .ok (.if_icmp .ge 31, 3) := by decide +kernel
theorem dX5_copy_65 : decode cX5_copy 65 = .ok (.aload_n 0, 1) := by decide +kernel
theorem dX5_copy_66 : decode cX5_copy 66 = .ok (.getfield 26, 3) := by decide +kernel
theorem dX5_copy_69 : decode cX5_copy 69 = .ok (.bipush 8, 2) := by decide +kernel
theorem dX5_copy_71 : decode cX5_copy 71 = .ok (.iload_n 2, 1) := by decide +kernel
theorem dX5_copy_72 : decode cX5_copy 72 = .ok (.imul, 1) := by decide +kernel
theorem dX5_copy_73 : decode cX5_copy 73 = .ok (.iload_n 3, 1) := by decide +kernel
theorem dX5_copy_74 : decode cX5_copy 74 = .ok (.iadd, 1) := by decide +kernel
theorem dX5_copy_75 : decode cX5_copy 75 = .ok (.aload_n 0, 1) := by decide +kernel
theorem dX5_copy_76 : decode cX5_copy 76 = .ok (.getfield 26, 3) := by decide +kernel
theorem dX5_copy_79 : decode cX5_copy 79 = .ok (.bipush 8, 2) := by decide +kernel
theorem dX5_copy_81 : decode cX5_copy 81 = .ok (.iload_n 1, 1) := by decide +kernel
theorem dX5_copy_82 : decode cX5_copy 82 = .ok (.imul, 1) := by decide +kernel
theorem dX5_copy_83 : decode cX5_copy 83 = .ok (.iload_n 3, 1) := by decide +kernel
theorem dX5_copy_84 : decode cX5_copy 84 = .ok (.iadd, 1) := by decide +kernel
theorem dX5_copy_85 : decode cX5_copy 85 = .ok (.iaload, 1) := by decide +kernel
theorem dX5_copy_86 : decode cX5_copy 86 = .ok (.iastore, 1) := by decide +kernel
theorem dX5_copy_87 : decode cX5_copy 87 = .ok (.iinc 3 1, 3) := by decide +kernel
theorem dX5_copy_90 : decode cX5_copy 90 = .ok (.goto (-31), 3) := by decide +kernel
theorem dX5_copy_93 : decode cX5_copy 93 = .ok (.iconst 0, 1) := by decide +kernel
theorem dX5_copy_94 : decode cX5_copy 94 = .ok (.istore_n 3, 1) := by decide +kernel
theorem dX5_copy_95 : decode cX5_copy 95 = .ok (.iload_n 3, 1) := by decide +kernel
theorem dX5_copy_96 : decode cX5_copy 96 = .ok (.sipush 320, 3) := by decide +kernel
theorem dX5_copy_99 : decode cX5_copy 99 = .ok (.if_icmp .ge 33, 3) := by decide +kernel
theorem dX5_copy_102 : decode cX5_copy 102 = .ok (.aload_n 0, 1) := by decide +kernel
theorem dX5_copy_103 : decode cX5_copy 103 = .ok (.getfield 29, 3) := by decide +kernel
theorem dX5_copy_106 : decode cX5_copy 106 = .ok (.sipush 320, 3) := by decide +kernel
theorem dX5_copy_109 : decode cX5_copy 109 = .ok (.iload_n 2, 1) := by decide +kernel
theorem dX5_copy_110 : decode cX5_copy 110 = .ok (.imul, 1) := by decide +kernel
theorem dX5_copy_111 : decode cX5_copy 111 = .ok (.iload_n 3, 1) := by decide +kernel
theorem dX5_copy_112 : decode cX5_copy 112 = .ok (.iadd, 1) := by decide +kernel
theorem dX5_copy_113 : decode cX5_copy 113 = .ok (.aload_n 0, 1) := by decide +kernel
theorem dX5_copy_114 : decode cX5_copy 114 = .ok (.getfield 29, 3) := by decide +kernel
theorem dX5_copy_117 : decode cX5_copy 117 = .ok (.sipush 320, 3) := by decide +kernel
theorem dX5_copy_120 : decode cX5_copy 120 = .ok (.iload_n 1, 1) := by decide +kernel
theorem dX5_copy_121 : decode cX5_copy 121 = .ok (.imul, 1) := by decide +kernel
theorem dX5_copy_122 : decode cX5_copy 122 = .ok (.iload_n 3, 1) := by decide +kernel
theorem dX5_copy_123 : decode cX5_copy 123 = .ok (.iadd, 1) := by decide +kernel
theorem dX5_copy_124 : decode cX5_copy 124 = .ok (.iaload, 1) := by decide +kernel
theorem dX5_copy_125 : decode cX5_copy 125 = .ok (.iastore, 1) := by decide +kernel
theorem dX5_copy_126 : decode cX5_copy 126 = .ok (.iinc 3 1, 3) := by decide +kernel
theorem dX5_copy_129 : decode cX5_copy 129 = .ok (.goto (-34), 3) := by decide +kernel
theorem dX5_copy_132 : decode cX5_copy 132 = .ok (.aload_n 0, 1) := by decide +kernel
theorem dX5_copy_133 : decode cX5_copy 133 = .ok (.getfield 20, 3) := by decide +kernel
theorem dX5_copy_136 : decode cX5_copy 136 = .ok (.iload_n 2, 1) := by decide +kernel
theorem dX5_copy_137 : decode cX5_copy 137 = .ok (.aload_n 0, 1) := by decide +kernel
theorem dX5_copy_138 : decode cX5_copy 138 = .ok (.getfield 20, 3) := by decide +kernel
theorem dX5_copy_141 : decode cX5_copy 141 = .ok (.iload_n 1, 1) := by decide +kernel
theorem dX5_copy_142 : decode cX5_copy 142 = .ok (.iaload, 1) := by decide +kernel
theorem dX5_copy_143 : decode cX5_copy 143 = .ok (.iastore, 1) := by decide +kernel
theorem dX5_copy_144 : decode cX5_copy 144 = .ok (.aload_n 0, 1) := by decide +kernel
theorem dX5_copy_145 : decode cX5_copy 145 = .ok (.getfield 23, 3) := by decide +kernel
theorem dX5_copy_148 : decode cX5_copy 148 = .ok (.iload_n 2, 1) := by decide +kernel
theorem dX5_copy_149 : decode cX5_copy 149 = .ok (.aload_n 0, 1) := by decide +kernel
theorem dX5_copy_150 : decode cX5_copy 150 = .ok (.getfield 23, 3) := by decide +kernel
theorem dX5_copy_153 : decode cX5_copy 153 = .ok (.iload_n 1, 1) := by decide +kernel
theorem dX5_copy_154 : decode cX5_copy 154 = .ok (.iaload, 1) := by decide +kernel
theorem dX5_copy_155 : decode cX5_copy 155 = .ok (.iastore, 1) := by decide +kernel
theorem dX5_copy_156 : decode cX5_copy 156 = .ok (.aload_n 0, 1) := by decide +kernel
theorem dX5_copy_157 : decode cX5_copy 157 = .ok (.getfield 32, 3) := by decide +kernel
theorem dX5_copy_160 : decode cX5_copy 160 = .ok (.iload_n 2, 1) := by decide +kernel
theorem dX5_copy_161 : decode cX5_copy 161 = .ok (.aload_n 0, 1) := by decide +kernel
theorem dX5_copy_162 : decode cX5_copy 162 = .ok (.getfield 32, 3) := by decide +kernel
theorem dX5_copy_165 : decode cX5_copy 165 = .ok (.iload_n 1, 1) := by decide +kernel
theorem dX5_copy_166 : decode cX5_copy 166 = .ok (.iaload, 1) := by decide +kernel
theorem dX5_copy_167 : decode cX5_copy 167 = .ok (.iastore, 1) := by decide +kernel
theorem dX5_copy_168 : decode cX5_copy 168 = .ok (.aload_n 0, 1) := by decide +kernel
theorem dX5_copy_169 : decode cX5_copy 169 = .ok (.getfield 20, 3) := by decide +kernel
theorem dX5_copy_172 : decode cX5_copy 172 = .ok (.iload_n 2, 1) := by decide +kernel
theorem dX5_copy_173 : decode cX5_copy 173 = .ok (.iaload, 1) := by decide +kernel
theorem dX5_copy_174 : decode cX5_copy 174 = .ok (.ireturn, 1) := by decide +kernel
set_option maxRecDepth 20000 in
theorem ggX5_told_X5_isHasher : GoodIn wsX5_told wsX5_isHasher := goodIn_r _ [6] (by decide +kernel) (by decide +kernel)
set_option maxRecDepth 20000 in
theorem gX5_told_X5_isHasher : GoodIn wsX5_told (va_wsS RX5 153 yX5_isHasher wsX5_isHasher) := goodIn_app (goodIn_of _ (by decide +kernel)) ggX5_told_X5_isHasher
set_option maxRecDepth 20000 in
theorem ggX5_told_X5_closedOf : GoodIn wsX5_told wsX5_closedOf := goodIn_r _ [10, 2, 11, 12, 13, 14, 15, 16, 17, 18, 19, 20, 21, 22, 23, 24, 25, 26, 27, 28, 29, 30, 31, 32, 33, 34, 35, 36, 37, 38] (by decide +kernel) (by decide +kernel)
set_option maxRecDepth 20000 in
theorem gX5_told_X5_closedOf : GoodIn wsX5_told (wsV RX5 142 RX5 yX5_closedOf wsX5_closedOf) := goodIn_app (goodIn_of _ (by decide +kernel)) ggX5_told_X5_closedOf
theorem dX5_told_0 : decode cX5_told 0 = .ok (.iload_n 1, 1) := by decide +kernel
theorem dX5_told_1 : decode cX5_told 1 = .ok (.invokestatic 153, 3) := by decide +kernel
theorem dX5_told_4 : decode cX5_told 4 = .ok (.ifCond .eq 12, 3) := by decide +kernel
theorem dX5_told_7 : decode cX5_told 7 = .ok (.iload_n 2, 1) := by decide +kernel
theorem dX5_told_8 : decode cX5_told 8 = .ok (.ifCond .lt 8, 3) := by decide +kernel
theorem dX5_told_11 : decode cX5_told 11 = .ok (.iload_n 2, 1) := by decide +kernel
theorem dX5_told_12 : decode cX5_told 12 = .ok (.iconst 4, 1) := by decide +kernel
theorem dX5_told_13 : decode cX5_told 13 = .ok (.if_icmp .le 6, 3) := by decide +kernel
theorem dX5_told_16 : decode cX5_told 16 = .ok (.bipush (-2), 2) := by decide +kernel
theorem dX5_told_18 : decode cX5_told 18 = .ok (.ireturn, 1) := by decide +kernel
theorem dX5_told_19 : decode cX5_told 19 = .ok (.aload_n 0, 1) := by decide +kernel
theorem dX5_told_20 : decode cX5_told 20 = .ok (.iload_n 1, 1) := by decide +kernel
theorem dX5_told_21 : decode cX5_told 21 = .ok (.invokevirtual 142, 3) := by decide +kernel
theorem dX5_told_24 : decode cX5_told 24 = .ok (.istore_n 3, 1) := by decide +kernel
theorem dX5_told_25 : decode cX5_told 25 = .ok (.iconst 0, 1) := by decide +kernel
theorem dX5_told_26 : decode cX5_told 26 = .ok (.istore 4, 2) := by decide +kernel
theorem dX5_told_28 : decode cX5_told 28 = .ok (.iload_n 3, 1) := by decide +kernel
theorem dX5_told_29 : decode cX5_told 29 = .ok (.istore 5, 2) := by decide +kernel
theorem dX5_told_31 : decode cX5_told 31 = .ok (.iload 5, 2) := by decide +kernel
theorem dX5_told_33 : decode cX5_told 33 = .ok (.ifCond .le 21, 3) := by decide +kernel
theorem dX5_told_36 : decode cX5_told 36 = .ok (.iload 4, 2) := by decide +kernel
theorem dX5_told_38 : decode cX5_told 38 = .ok (.iload 5, 2) := by decide +kernel
theorem dX5_told_40 : decode cX5_told 40 = .ok (.iconst 2, 1) := by decide +kernel
theorem dX5_told_41 : decode cX5_told 41 = .ok (.irem, 1) := by decide +kernel
theorem dX5_told_42 : decode cX5_told 42 = .ok (.iadd, 1) := by decide +kernel
theorem dX5_told_43 : decode cX5_told 43 = .ok (.istore 4, 2) := by decide +kernel
theorem dX5_told_45 : decode cX5_told 45 = .ok (.iload 5, 2) := by decide +kernel
theorem dX5_told_47 : decode cX5_told 47 = .ok (.iconst 2, 1) := by decide +kernel
theorem dX5_told_48 : decode cX5_told 48 = .ok (.idiv, 1) := by decide +kernel
theorem dX5_told_49 : decode cX5_told 49 = .ok (.istore 5, 2) := by decide +kernel
theorem dX5_told_51 : decode cX5_told 51 = .ok (.goto (-20), 3) := by decide +kernel
theorem dX5_told_54 : decode cX5_told 54 = .ok (.iload_n 2, 1) := by decide +kernel
theorem dX5_told_55 : decode cX5_told 55 = .ok (.ifCond .ne 12, 3) := by decide +kernel
theorem dX5_told_58 : decode cX5_told 58 = .ok (.aload_n 0, 1) := by decide +kernel
theorem dX5_told_59 : decode cX5_told 59 = .ok (.getfield 23, 3) := by decide +kernel
theorem dX5_told_62 : decode cX5_told 62 = .ok (.iload_n 1, 1) := by decide +kernel
theorem dX5_told_63 : decode cX5_told 63 = .ok (.iaload, 1) := by decide +kernel
theorem dX5_told_64 : decode cX5_told 64 = .ok (.goto 48, 3) := by decide +kernel
theorem dX5_told_67 : decode cX5_told 67 = .ok (.iload_n 2, 1) := by decide +kernel
theorem dX5_told_68 : decode cX5_told 68 = .ok (.iconst 1, 1) := by decide +kernel
theorem dX5_told_69 : decode cX5_told 69 = .ok (.if_icmp .ne 12, 3) := by decide +kernel
theorem dX5_told_72 : decode cX5_told 72 = .ok (.aload_n 0, 1) := by decide +kernel
theorem dX5_told_73 : decode cX5_told 73 = .ok (.getfield 20, 3) := by decide +kernel
theorem dX5_told_76 : decode cX5_told 76 = .ok (.iload_n 1, 1) := by decide +kernel
theorem dX5_told_77 : decode cX5_told 77 = .ok (.iaload, 1) := by decide +kernel
theorem dX5_told_78 : decode cX5_told 78 = .ok (.goto 34, 3) := by decide +kernel
theorem dX5_told_81 : decode cX5_told 81 = .ok (.iload_n 2, 1) := by decide +kernel
theorem dX5_told_82 : decode cX5_told 82 = .ok (.iconst 2, 1) := by decide +kernel
theorem dX5_told_83 : decode cX5_told 83 = .ok (.if_icmp .ne 7, 3) := by decide +kernel
theorem dX5_told_86 : decode cX5_told 86 = .ok (.iload_n 3, 1) := by decide +kernel
theorem dX5_told_87 : decode cX5_told 87 = .ok (.goto 25, 3) := by decide +kernel
theorem dX5_told_90 : decode cX5_told 90 = .ok (.iload_n 2, 1) := by decide +kernel
theorem dX5_told_91 : decode cX5_told 91 = .ok (.iconst 3, 1) := by decide +kernel
theorem dX5_told_92 : decode cX5_told 92 = .ok (.if_icmp .ne 8, 3) := by decide +kernel
theorem dX5_told_95 : decode cX5_told 95 = .ok (.iload 4, 2) := by decide +kernel
theorem dX5_told_97 : decode cX5_told 97 = .ok (.goto 15, 3) := by decide +kernel
theorem dX5_told_100 : decode cX5_told 100 = .ok (.aload_n 0, 1) := by decide +kernel
theorem dX5_told_101 : decode cX5_told 101 = .ok (.getfield 20, 3) := by decide +kernel
theorem dX5_told_104 : decode cX5_told 104 = .ok (.iload_n 1, 1) := by decide +kernel
theorem dX5_told_105 : decode cX5_told 105 = .ok (.iaload, 1) := by decide +kernel
theorem dX5_told_106 : decode cX5_told 106 = .ok (.sipush 1024, 3) := by decide +kernel
theorem dX5_told_109 : decode cX5_told 109 = .ok (.iload_n 3, 1) := by decide +kernel
theorem dX5_told_110 : decode cX5_told 110 = .ok (.imul, 1) := by decide +kernel
theorem dX5_told_111 : decode cX5_told 111 = .ok (.isub, 1) := by decide +kernel
theorem dX5_told_112 : decode cX5_told 112 = .ok (.ireturn, 1) := by decide +kernel
set_option maxRecDepth 20000 in
theorem ggX5_chain_X5_isHasher : GoodIn wsX5_chain wsX5_isHasher := goodIn_r _ [6] (by decide +kernel) (by decide +kernel)
set_option maxRecDepth 20000 in
theorem gX5_chain_X5_isHasher : GoodIn wsX5_chain (va_wsS RX5 153 yX5_isHasher wsX5_isHasher) := goodIn_app (goodIn_of _ (by decide +kernel)) ggX5_chain_X5_isHasher
set_option maxRecDepth 20000 in
theorem ggX5_chain_X5_pileOf : GoodIn wsX5_chain wsX5_pileOf := goodIn_r _ [10, 11, 12, 13, 14, 15, 16, 17, 18, 5, 19, 20, 21, 22, 23, 24, 25, 26, 27, 28, 29, 30, 31, 32, 33, 34, 35, 36, 37, 38, 39, 40, 41, 42, 43, 44, 45, 46, 47, 48, 49, 50, 51, 52, 53, 54, 55, 56, 57, 58, 59, 60, 1, 61, 62, 63, 64, 65, 2, 66, 67, 68, 69, 70, 71, 72, 73, 74, 75, 76, 77, 78, 79, 80, 81, 82, 83, 84, 85, 86, 87, 88, 89, 90, 91, 92, 93, 94, 95, 96, 97] (by decide +kernel) (by decide +kernel)
set_option maxRecDepth 20000 in
theorem gX5_chain_X5_pileOf : GoodIn wsX5_chain (wsV RX5 160 RX5 yX5_pileOf wsX5_pileOf) := goodIn_app (goodIn_of _ (by decide +kernel)) ggX5_chain_X5_pileOf
theorem dX5_chain_0 : decode cX5_chain 0 = .ok (.iload_n 1, 1) := by decide +kernel
theorem dX5_chain_1 : decode cX5_chain 1 = .ok (.invokestatic 153, 3) := by decide +kernel
theorem dX5_chain_4 : decode cX5_chain 4 = .ok (.ifCond .ne 6, 3) := by decide +kernel
theorem dX5_chain_7 : decode cX5_chain 7 = .ok (.bipush (-2), 2) := by decide +kernel
theorem dX5_chain_9 : decode cX5_chain 9 = .ok (.ireturn, 1) := by decide +kernel
theorem dX5_chain_10 : decode cX5_chain 10 = .ok (.iload_n 2, 1) := by decide +kernel
theorem dX5_chain_11 : decode cX5_chain 11 = .ok (.ifCond .lt 13, 3) := by decide +kernel
theorem dX5_chain_14 : decode cX5_chain 14 = .ok (.iload_n 3, 1) := by decide +kernel
theorem dX5_chain_15 : decode cX5_chain 15 = .ok (.ifCond .lt 9, 3) := by decide +kernel
theorem dX5_chain_18 : decode cX5_chain 18 = .ok (.iload_n 3, 1) := by decide +kernel
theorem dX5_chain_19 : decode cX5_chain 19 = .ok (.bipush 7, 2) := by decide +kernel
theorem dX5_chain_21 : decode cX5_chain 21 = .ok (.if_icmp .le 5, 3) := by decide +kernel
theorem dX5_chain_24 : decode cX5_chain 24 = .ok (.iconst 0, 1) := by decide +kernel
theorem dX5_chain_25 : decode cX5_chain 25 = .ok (.ireturn, 1) := by decide +kernel
theorem dX5_chain_26 : decode cX5_chain 26 = .ok (.aload_n 0, 1) := by decide +kernel
theorem dX5_chain_27 : decode cX5_chain 27 = .ok (.iload_n 1, 1) := by decide +kernel
theorem dX5_chain_28 : decode cX5_chain 28 = .ok (.invokevirtual 160, 3) := by decide +kernel
theorem dX5_chain_31 : decode cX5_chain 31 = .ok (.iload_n 2, 1) := by decide +kernel
theorem dX5_chain_32 : decode cX5_chain 32 = .ok (.aload_n 0, 1) := by decide +kernel
theorem dX5_chain_33 : decode cX5_chain 33 = .ok (.getfield 117, 3) := by decide +kernel
theorem dX5_chain_36 : decode cX5_chain 36 = .ok (.if_icmp .ge 17, 3) := by decide +kernel
theorem dX5_chain_39 : decode cX5_chain 39 = .ok (.aload_n 0, 1) := by decide +kernel
theorem dX5_chain_40 : decode cX5_chain 40 = .ok (.getfield 65, 3) := by decide +kernel
theorem dX5_chain_43 : decode cX5_chain 43 = .ok (.bipush 8, 2) := by decide +kernel
theorem dX5_chain_45 : decode cX5_chain 45 = .ok (.iload_n 2, 1) := by decide +kernel
theorem dX5_chain_46 : decode cX5_chain 46 = .ok (.imul, 1) := by decide +kernel
theorem dX5_chain_47 : decode cX5_chain 47 = .ok (.iload_n 3, 1) := by decide +kernel
theorem dX5_chain_48 : decode cX5_chain 48 = .ok (.iadd, 1) := by decide +kernel
theorem dX5_chain_49 : decode cX5_chain 49 = .ok (.iaload, 1) := by decide +kernel
theorem dX5_chain_50 : decode cX5_chain 50 = .ok (.goto 4, 3) := by decide +kernel
theorem dX5_chain_53 : decode cX5_chain 53 = .ok (.iconst 0, 1) := by decide +kernel
theorem dX5_chain_54 : decode cX5_chain 54 = .ok (.ireturn, 1) := by decide +kernel
theorem dX5_grow_0 : decode cX5_grow 0 = .ok (.iload_n 1, 1) := by decide +kernel
theorem dX5_grow_1 : decode cX5_grow 1 = .ok (.iconst 1, 1) := by decide +kernel
theorem dX5_grow_2 : decode cX5_grow 2 = .ok (.if_icmp .lt 10, 3) := by decide +kernel
theorem dX5_grow_5 : decode cX5_grow 5 = .ok (.iload_n 1, 1) := by decide +kernel
theorem dX5_grow_6 : decode cX5_grow 6 = .ok (.sipush 5000, 3) := by decide +kernel
theorem dX5_grow_9 : decode cX5_grow 9 = .ok (.if_icmp .le 6, 3) := by decide +kernel
theorem dX5_grow_12 : decode cX5_grow 12 = .ok (.bipush (-2), 2) := by decide +kernel
theorem dX5_grow_14 : decode cX5_grow 14 = .ok (.ireturn, 1) := by decide +kernel
theorem dX5_grow_15 : decode cX5_grow 15 = .ok (.aload_n 0, 1) := by decide +kernel
theorem dX5_grow_16 : decode cX5_grow 16 = .ok (.getfield 178, 3) := by decide +kernel
theorem dX5_grow_19 : decode cX5_grow 19 = .ok (.iload_n 1, 1) := by decide +kernel
theorem dX5_grow_20 : decode cX5_grow 20 = .ok (.iadd, 1) := by decide +kernel
theorem dX5_grow_21 : decode cX5_grow 21 = .ok (.sipush 20000, 3) := by decide +kernel
theorem dX5_grow_24 : decode cX5_grow 24 = .ok (.if_icmp .le 6, 3) := by decide +kernel
theorem dX5_grow_27 : decode cX5_grow 27 = .ok (.bipush (-3), 2) := by decide +kernel
theorem dX5_grow_29 : decode cX5_grow 29 = .ok (.ireturn, 1) := by decide +kernel
theorem dX5_grow_30 : decode cX5_grow 30 = .ok (.iconst 0, 1) := by decide +kernel
theorem dX5_grow_31 : decode cX5_grow 31 = .ok (.istore 4, 2) := by decide +kernel
theorem dX5_grow_33 : decode cX5_grow 33 = .ok (.iload 4, 2) := by decide +kernel
theorem dX5_grow_35 : decode cX5_grow 35 = .ok (.iload_n 1, 1) := by decide +kernel
theorem dX5_grow_36 : decode cX5_grow 36 = .ok (.if_icmp .ge 38, 3) := by decide +kernel
theorem dX5_grow_39 : decode cX5_grow 39 = .ok (.aload_n 0, 1) := by decide +kernel
theorem dX5_grow_40 : decode cX5_grow 40 = .ok (.getfield 35, 3) := by decide +kernel
theorem dX5_grow_43 : decode cX5_grow 43 = .ok (.aload_n 0, 1) := by decide +kernel
theorem dX5_grow_44 : decode cX5_grow 44 = .ok (.getfield 178, 3) := by decide +kernel
theorem dX5_grow_47 : decode cX5_grow 47 = .ok (.iload_n 2, 1) := by decide +kernel
theorem dX5_grow_48 : decode cX5_grow 48 = .ok (.iload 4, 2) := by decide +kernel
theorem dX5_grow_50 : decode cX5_grow 50 = .ok (.iload_n 3, 1) := by decide +kernel
theorem dX5_grow_51 : decode cX5_grow 51 = .ok (.imul, 1) := by decide +kernel
theorem dX5_grow_52 : decode cX5_grow 52 = .ok (.iadd, 1) := by decide +kernel
theorem dX5_grow_53 : decode cX5_grow 53 = .ok (.sipush 255, 3) := by decide +kernel
theorem dX5_grow_56 : decode cX5_grow 56 = .ok (.iand, 1) := by decide +kernel
theorem dX5_grow_57 : decode cX5_grow 57 = .ok (.iastore, 1) := by decide +kernel
theorem dX5_grow_58 : decode cX5_grow 58 = .ok (.aload_n 0, 1) := by decide +kernel
theorem dX5_grow_59 : decode cX5_grow 59 = .ok (.dup, 1) := by decide +kernel
theorem dX5_grow_60 : decode cX5_grow 60 = .ok (.getfield 178, 3) := by decide +kernel
theorem dX5_grow_63 : decode cX5_grow 63 = .ok (.iconst 1, 1) := by decide +kernel
theorem dX5_grow_64 : decode cX5_grow 64 = .ok (.iadd, 1) := by decide +kernel
theorem dX5_grow_65 : decode cX5_grow 65 = .ok (.putfield 178, 3) := by decide +kernel
theorem dX5_grow_68 : decode cX5_grow 68 = .ok (.iinc 4 1, 3) := by decide +kernel
theorem dX5_grow_71 : decode cX5_grow 71 = .ok (.goto (-38), 3) := by decide +kernel
theorem dX5_grow_74 : decode cX5_grow 74 = .ok (.aload_n 0, 1) := by decide +kernel
theorem dX5_grow_75 : decode cX5_grow 75 = .ok (.getfield 178, 3) := by decide +kernel
theorem dX5_grow_78 : decode cX5_grow 78 = .ok (.ireturn, 1) := by decide +kernel
theorem dX5_spoil_0 : decode cX5_spoil 0 = .ok (.iload_n 1, 1) := by decide +kernel
theorem dX5_spoil_1 : decode cX5_spoil 1 = .ok (.ifCond .lt 22, 3) := by decide +kernel
theorem dX5_spoil_4 : decode cX5_spoil 4 = .ok (.iload_n 1, 1) := by decide +kernel
theorem dX5_spoil_5 : decode cX5_spoil 5 = .ok (.aload_n 0, 1) := by decide +kernel
theorem dX5_spoil_6 : decode cX5_spoil 6 = .ok (.getfield 178, 3) := by decide +kernel
theorem dX5_spoil_9 : decode cX5_spoil 9 = .ok (.if_icmp .ge 14, 3) := by decide +kernel
theorem dX5_spoil_12 : decode cX5_spoil 12 = .ok (.iload_n 2, 1) := by decide +kernel
theorem dX5_spoil_13 : decode cX5_spoil 13 = .ok (.ifCond .lt 10, 3) := by decide +kernel
theorem dX5_spoil_16 : decode cX5_spoil 16 = .ok (.iload_n 2, 1) := by decide +kernel
theorem dX5_spoil_17 : decode cX5_spoil 17 = .ok (.sipush 255, 3) := by decide +kernel
theorem dX5_spoil_20 : decode cX5_spoil 20 = .ok (.if_icmp .le 6, 3) := by decide +kernel
theorem dX5_spoil_23 : decode cX5_spoil 23 = .ok (.bipush (-2), 2) := by decide +kernel
theorem dX5_spoil_25 : decode cX5_spoil 25 = .ok (.ireturn, 1) := by decide +kernel
theorem dX5_spoil_26 : decode cX5_spoil 26 = .ok (.aload_n 0, 1) := by decide +kernel
theorem dX5_spoil_27 : decode cX5_spoil 27 = .ok (.getfield 35, 3) := by decide +kernel
theorem dX5_spoil_30 : decode cX5_spoil 30 = .ok (.iload_n 1, 1) := by decide +kernel
theorem dX5_spoil_31 : decode cX5_spoil 31 = .ok (.dup2, 1) := by decide +kernel
theorem dX5_spoil_32 : decode cX5_spoil 32 = .ok (.iaload, 1) := by decide +kernel
theorem dX5_spoil_33 : decode cX5_spoil 33 = .ok (.iload_n 2, 1) := by decide +kernel
theorem dX5_spoil_34 : decode cX5_spoil 34 = .ok (.ixor, 1) := by decide +kernel
theorem dX5_spoil_35 : decode cX5_spoil 35 = .ok (.iastore, 1) := by decide +kernel
theorem dX5_spoil_36 : decode cX5_spoil 36 = .ok (.aload_n 0, 1) := by decide +kernel
theorem dX5_spoil_37 : decode cX5_spoil 37 = .ok (.getfield 35, 3) := by decide +kernel
theorem dX5_spoil_40 : decode cX5_spoil 40 = .ok (.iload_n 1, 1) := by decide +kernel
theorem dX5_spoil_41 : decode cX5_spoil 41 = .ok (.iaload, 1) := by decide +kernel
theorem dX5_spoil_42 : decode cX5_spoil 42 = .ok (.ireturn, 1) := by decide +kernel
theorem dX5_shorten_0 : decode cX5_shorten 0 = .ok (.iload_n 1, 1) := by decide +kernel
theorem dX5_shorten_1 : decode cX5_shorten 1 = .ok (.ifCond .lt 11, 3) := by decide +kernel
theorem dX5_shorten_4 : decode cX5_shorten 4 = .ok (.iload_n 1, 1) := by decide +kernel
theorem dX5_shorten_5 : decode cX5_shorten 5 = .ok (.aload_n 0, 1) := by decide +kernel
theorem dX5_shorten_6 : decode cX5_shorten 6 = .ok (.getfield 178, 3) := by decide +kernel
theorem dX5_shorten_9 : decode cX5_shorten 9 = .ok (.if_icmp .le 6, 3) := by decide +kernel
theorem dX5_shorten_12 : decode cX5_shorten 12 = .ok (.bipush (-2), 2) := by decide +kernel
theorem dX5_shorten_14 : decode cX5_shorten 14 = .ok (.ireturn, 1) := by decide +kernel
theorem dX5_shorten_15 : decode cX5_shorten 15 = .ok (.aload_n 0, 1) := by decide +kernel
theorem dX5_shorten_16 : decode cX5_shorten 16 = .ok (.getfield 178, 3) := by decide +kernel
theorem dX5_shorten_19 : decode cX5_shorten 19 = .ok (.iload_n 1, 1) := by decide +kernel
theorem dX5_shorten_20 : decode cX5_shorten 20 = .ok (.isub, 1) := by decide +kernel
theorem dX5_shorten_21 : decode cX5_shorten 21 = .ok (.istore_n 2, 1) := by decide +kernel
theorem dX5_shorten_22 : decode cX5_shorten 22 = .ok (.aload_n 0, 1) := by decide +kernel
theorem dX5_shorten_23 : decode cX5_shorten 23 = .ok (.iload_n 1, 1) := by decide +kernel
theorem dX5_shorten_24 : decode cX5_shorten 24 = .ok (.putfield 178, 3) := by decide +kernel
theorem dX5_shorten_27 : decode cX5_shorten 27 = .ok (.iload_n 2, 1) := by decide +kernel
theorem dX5_shorten_28 : decode cX5_shorten 28 = .ok (.ireturn, 1) := by decide +kernel
set_option maxRecDepth 20000 in
theorem ggX5_root_X5_isRegister : GoodIn wsX5_root wsX5_isRegister := goodIn_r _ [10] (by decide +kernel) (by decide +kernel)
set_option maxRecDepth 20000 in
theorem gX5_root_X5_isRegister : GoodIn wsX5_root (va_wsS RX5 147 yX5_isRegister wsX5_isRegister) := goodIn_app (goodIn_of _ (by decide +kernel)) ggX5_root_X5_isRegister
set_option maxRecDepth 20000 in
theorem ggX5_root_X5_useKey : GoodIn wsX5_root wsX5_useKey := goodIn_r _ [14, 15, 16, 17, 18, 19, 71, 72, 73, 74, 75, 76, 77, 78, 79, 80, 81, 82, 83, 84, 85, 86, 87, 88, 89, 90, 91, 92, 93, 94, 95, 96, 97, 98] (by decide +kernel) (by decide +kernel)
set_option maxRecDepth 20000 in
theorem gX5_root_X5_useKey : GoodIn wsX5_root (wsV RX5 139 RX5 yX5_useKey wsX5_useKey) := goodIn_app (goodIn_of _ (by decide +kernel)) ggX5_root_X5_useKey
set_option maxRecDepth 20000 in
theorem ggX5_root_X5_chunksOf : GoodIn wsX5_root wsX5_chunksOf := goodIn_r _ [22] (by decide +kernel) (by decide +kernel)
set_option maxRecDepth 20000 in
theorem gX5_root_X5_chunksOf : GoodIn wsX5_root (va_wsS RX5 181 yX5_chunksOf wsX5_chunksOf) := goodIn_app (goodIn_of _ (by decide +kernel)) ggX5_root_X5_chunksOf
set_option maxRecDepth 20000 in
theorem ggX5_root_X5_tree : GoodIn wsX5_root wsX5_tree := goodIn_r _ [26, 27, 28, 29, 30, 9, 31, 32, 33, 34, 35, 36, 37, 38, 39, 40, 15, 41, 42, 43, 19, 3, 44, 45, 46, 47, 5, 48, 49, 50, 51, 16, 52, 53, 54, 55, 56, 57, 58, 59, 60, 61, 62, 63, 64, 65, 66, 67, 68, 69, 70, 71, 72, 73, 74, 75, 76, 77, 78, 79, 80, 81, 82, 83, 84, 85, 86, 87, 88, 89, 90, 91, 92, 93, 94, 95, 96, 97, 98] (by decide +kernel) (by decide +kernel)
set_option maxRecDepth 20000 in
theorem gX5_root_X5_tree : GoodIn wsX5_root (wsV RX5 184 RX5 yX5_tree wsX5_tree) := goodIn_app (goodIn_of _ (by decide +kernel)) ggX5_root_X5_tree
set_option maxRecDepth 20000 in
theorem ggX5_root_X5_mix : GoodIn wsX5_root wsX5_mix := goodIn_r _ [51, 5, 40, 16, 42, 52, 43, 53, 54, 55, 56, 57, 9, 58, 59, 60, 61, 71, 72, 73, 74, 75, 76, 77, 78, 79, 80, 81, 82, 83, 84, 85, 86, 87, 88, 89, 90, 91, 92, 93, 94, 95, 96, 97, 98] (by decide +kernel) (by decide +kernel)
set_option maxRecDepth 20000 in
theorem gX5_root_X5_mix : GoodIn wsX5_root (wsV RX5 107 RX5 yX5_mix wsX5_mix) := goodIn_app (goodIn_of _ (by decide +kernel)) ggX5_root_X5_mix
theorem dX5_root_0 : decode cX5_root 0 = .ok (.iload_n 1, 1) := by decide +kernel
theorem dX5_root_1 : decode cX5_root 1 = .ok (.invokestatic 147, 3) := by decide +kernel
theorem dX5_root_4 : decode cX5_root 4 = .ok (.ifCond .ne 6, 3) := by decide +kernel
theorem dX5_root_7 : decode cX5_root 7 = .ok (.bipush (-2), 2) := by decide +kernel
theorem dX5_root_9 : decode cX5_root 9 = .ok (.ireturn, 1) := by decide +kernel
theorem dX5_root_10 : decode cX5_root 10 = .ok (.aload_n 0, 1) := by decide +kernel
theorem dX5_root_11 : decode cX5_root 11 = .ok (.iconst (-1), 1) := by decide +kernel
theorem dX5_root_12 : decode cX5_root 12 = .ok (.invokevirtual 139, 3) := by decide +kernel
theorem dX5_root_15 : decode cX5_root 15 = .ok (.aload_n 0, 1) := by decide +kernel
theorem dX5_root_16 : decode cX5_root 16 = .ok (.aload_n 0, 1) := by decide +kernel
theorem dX5_root_17 : decode cX5_root 17 = .ok (.getfield 35, 3) := by decide +kernel
theorem dX5_root_20 : decode cX5_root 20 = .ok (.iconst 0, 1) := by decide +kernel
theorem dX5_root_21 : decode cX5_root 21 = .ok (.aload_n 0, 1) := by decide +kernel
theorem dX5_root_22 : decode cX5_root 22 = .ok (.getfield 178, 3) := by decide +kernel
theorem dX5_root_25 : decode cX5_root 25 = .ok (.iconst 0, 1) := by decide +kernel
theorem dX5_root_26 : decode cX5_root 26 = .ok (.aload_n 0, 1) := by decide +kernel
theorem dX5_root_27 : decode cX5_root 27 = .ok (.getfield 178, 3) := by decide +kernel
theorem dX5_root_30 : decode cX5_root 30 = .ok (.invokestatic 181, 3) := by decide +kernel
theorem dX5_root_33 : decode cX5_root 33 = .ok (.invokevirtual 184, 3) := by decide +kernel
theorem dX5_root_36 : decode cX5_root 36 = .ok (.aload_n 0, 1) := by decide +kernel
theorem dX5_root_37 : decode cX5_root 37 = .ok (.lconst 0, 1) := by decide +kernel
theorem dX5_root_38 : decode cX5_root 38 = .ok (.aload_n 0, 1) := by decide +kernel
theorem dX5_root_39 : decode cX5_root 39 = .ok (.getfield 104, 3) := by decide +kernel
theorem dX5_root_42 : decode cX5_root 42 = .ok (.bipush 8, 2) := by decide +kernel
theorem dX5_root_44 : decode cX5_root 44 = .ok (.iadd, 1) := by decide +kernel
theorem dX5_root_45 : decode cX5_root 45 = .ok (.invokevirtual 107, 3) := by decide +kernel
theorem dX5_root_48 : decode cX5_root 48 = .ok (.iconst 0, 1) := by decide +kernel
theorem dX5_root_49 : decode cX5_root 49 = .ok (.istore_n 2, 1) := by decide +kernel
theorem dX5_root_50 : decode cX5_root 50 = .ok (.iload_n 2, 1) := by decide +kernel
theorem dX5_root_51 : decode cX5_root 51 = .ok (.bipush 32, 2) := by decide +kernel
theorem dX5_root_53 : decode cX5_root 53 = .ok (.if_icmp .ge 40, 3) := by decide +kernel
theorem dX5_root_56 : decode cX5_root 56 = .ok (.aload_n 0, 1) := by decide +kernel
theorem dX5_root_57 : decode cX5_root 57 = .ok (.getfield 7, 3) := by decide +kernel
theorem dX5_root_60 : decode cX5_root 60 = .ok (.sipush 200, 3) := by decide +kernel
theorem dX5_root_63 : decode cX5_root 63 = .ok (.iload_n 1, 1) := by decide +kernel
theorem dX5_root_64 : decode cX5_root 64 = .ok (.imul, 1) := by decide +kernel
theorem dX5_root_65 : decode cX5_root 65 = .ok (.iload_n 2, 1) := by decide +kernel
theorem dX5_root_66 : decode cX5_root 66 = .ok (.iadd, 1) := by decide +kernel
theorem dX5_root_67 : decode cX5_root 67 = .ok (.aload_n 0, 1) := by decide +kernel
theorem dX5_root_68 : decode cX5_root 68 = .ok (.getfield 53, 3) := by decide +kernel
theorem dX5_root_71 : decode cX5_root 71 = .ok (.iload_n 2, 1) := by decide +kernel
theorem dX5_root_72 : decode cX5_root 72 = .ok (.iconst 4, 1) := by decide +kernel
theorem dX5_root_73 : decode cX5_root 73 = .ok (.idiv, 1) := by decide +kernel
theorem dX5_root_74 : decode cX5_root 74 = .ok (.iaload, 1) := by decide +kernel
theorem dX5_root_75 : decode cX5_root 75 = .ok (.bipush 8, 2) := by decide +kernel
theorem dX5_root_77 : decode cX5_root 77 = .ok (.iload_n 2, 1) := by decide +kernel
theorem dX5_root_78 : decode cX5_root 78 = .ok (.iconst 4, 1) := by decide +kernel
theorem dX5_root_79 : decode cX5_root 79 = .ok (.irem, 1) := by decide +kernel
theorem dX5_root_80 : decode cX5_root 80 = .ok (.imul, 1) := by decide +kernel
theorem dX5_root_81 : decode cX5_root 81 = .ok (.ishr, 1) := by decide +kernel
theorem dX5_root_82 : decode cX5_root 82 = .ok (.sipush 255, 3) := by decide +kernel
theorem dX5_root_85 : decode cX5_root 85 = .ok (.iand, 1) := by decide +kernel
theorem dX5_root_86 : decode cX5_root 86 = .ok (.iastore, 1) := by decide +kernel
theorem dX5_root_87 : decode cX5_root 87 = .ok (.iinc 2 1, 3) := by decide +kernel
theorem dX5_root_90 : decode cX5_root 90 = .ok (.goto (-40), 3) := by decide +kernel
theorem dX5_root_93 : decode cX5_root 93 = .ok (.aload_n 0, 1) := by decide +kernel
theorem dX5_root_94 : decode cX5_root 94 = .ok (.getfield 13, 3) := by decide +kernel
theorem dX5_root_97 : decode cX5_root 97 = .ok (.iload_n 1, 1) := by decide +kernel
theorem dX5_root_98 : decode cX5_root 98 = .ok (.bipush 32, 2) := by decide +kernel
theorem dX5_root_100 : decode cX5_root 100 = .ok (.iastore, 1) := by decide +kernel
theorem dX5_root_101 : decode cX5_root 101 = .ok (.aload_n 0, 1) := by decide +kernel
theorem dX5_root_102 : decode cX5_root 102 = .ok (.getfield 178, 3) := by decide +kernel
theorem dX5_root_105 : decode cX5_root 105 = .ok (.ireturn, 1) := by decide +kernel
theorem dX5_leftOf_0 : decode cX5_leftOf 0 = .ok (.iconst 1, 1) := by decide +kernel
theorem dX5_leftOf_1 : decode cX5_leftOf 1 = .ok (.istore_n 1, 1) := by decide +kernel
theorem dX5_leftOf_2 : decode cX5_leftOf 2 = .ok (.iconst 2, 1) := by decide +kernel
theorem dX5_leftOf_3 : decode cX5_leftOf 3 = .ok (.iload_n 1, 1) := by decide +kernel
theorem dX5_leftOf_4 : decode cX5_leftOf 4 = .ok (.imul, 1) := by decide +kernel
theorem dX5_leftOf_5 : decode cX5_leftOf 5 = .ok (.iload_n 0, 1) := by decide +kernel
theorem dX5_leftOf_6 : decode cX5_leftOf 6 = .ok (.if_icmp .ge 10, 3) := by decide +kernel
theorem dX5_leftOf_9 : decode cX5_leftOf 9 = .ok (.iload_n 1, 1) := by decide +kernel
theorem dX5_leftOf_10 : decode cX5_leftOf 10 = .ok (.iconst 2, 1) := by decide +kernel
theorem dX5_leftOf_11 : decode cX5_leftOf 11 = .ok (.imul, 1) := by decide +kernel
theorem dX5_leftOf_12 : decode cX5_leftOf 12 = .ok (.istore_n 1, 1) := by decide +kernel
theorem dX5_leftOf_13 : decode cX5_leftOf 13 = .ok (.goto (-11), 3) := by decide +kernel
theorem dX5_leftOf_16 : decode cX5_leftOf 16 = .ok (.iload_n 1, 1) := by decide +kernel
theorem dX5_leftOf_17 : decode cX5_leftOf 17 = .ok (.ireturn, 1) := by decide +kernel
set_option maxRecDepth 20000 in
theorem ggX5_prove_X5_chunksOf : GoodIn wsX5_prove wsX5_chunksOf := goodIn_r _ [9] (by decide +kernel) (by decide +kernel)
set_option maxRecDepth 20000 in
theorem gX5_prove_X5_chunksOf : GoodIn wsX5_prove (va_wsS RX5 181 yX5_chunksOf wsX5_chunksOf) := goodIn_app (goodIn_of _ (by decide +kernel)) ggX5_prove_X5_chunksOf
set_option maxRecDepth 20000 in
theorem ggX5_prove_X5_useKey : GoodIn wsX5_prove wsX5_useKey := goodIn_r _ [13, 14, 15, 16, 17, 18, 71, 72, 73, 74, 75, 76, 77, 78, 79, 80, 81, 82, 83, 84, 85, 86, 87, 88, 89, 90, 91, 92, 93, 94, 95, 96, 97, 98] (by decide +kernel) (by decide +kernel)
set_option maxRecDepth 20000 in
theorem gX5_prove_X5_useKey : GoodIn wsX5_prove (wsV RX5 139 RX5 yX5_useKey wsX5_useKey) := goodIn_app (goodIn_of _ (by decide +kernel)) ggX5_prove_X5_useKey
set_option maxRecDepth 20000 in
theorem ggX5_prove_X5_chunkSize : GoodIn wsX5_prove wsX5_chunkSize := goodIn_r _ [21] (by decide +kernel) (by decide +kernel)
set_option maxRecDepth 20000 in
theorem gX5_prove_X5_chunkSize : GoodIn wsX5_prove (va_wsS RX5 129 yX5_chunkSize wsX5_chunkSize) := goodIn_app (goodIn_of _ (by decide +kernel)) ggX5_prove_X5_chunkSize
set_option maxRecDepth 20000 in
theorem ggX5_prove_X5_leftOf : GoodIn wsX5_prove wsX5_leftOf := goodIn_r _ [24] (by decide +kernel) (by decide +kernel)
set_option maxRecDepth 20000 in
theorem gX5_prove_X5_leftOf : GoodIn wsX5_prove (va_wsS RX5 191 yX5_leftOf wsX5_leftOf) := goodIn_app (goodIn_of _ (by decide +kernel)) ggX5_prove_X5_leftOf
set_option maxRecDepth 20000 in
theorem ggX5_prove_X5_tree : GoodIn wsX5_prove wsX5_tree := goodIn_r _ [28, 29, 30, 31, 32, 8, 33, 34, 19, 20, 21, 35, 36, 37, 38, 5, 14, 39, 40, 41, 18, 42, 43, 44, 45, 46, 47, 48, 49, 50, 51, 15, 52, 53, 54, 55, 56, 57, 58, 59, 60, 61, 62, 63, 64, 65, 66, 67, 68, 69, 70, 71, 72, 73, 74, 75, 76, 77, 78, 79, 80, 81, 82, 83, 84, 85, 86, 87, 88, 89, 90, 91, 92, 93, 94, 95, 96, 97, 98] (by decide +kernel) (by decide +kernel)
set_option maxRecDepth 20000 in
theorem gX5_prove_X5_tree : GoodIn wsX5_prove (wsV RX5 184 RX5 yX5_tree wsX5_tree) := goodIn_app (goodIn_of _ (by decide +kernel)) ggX5_prove_X5_tree
set_option maxRecDepth 20000 in
theorem ggX5_prove_X5_mixIn : GoodIn wsX5_prove wsX5_mixIn := goodIn_r _ [46, 39, 42, 5, 47, 48, 49, 50, 8, 51, 15, 40, 52, 41, 53, 54, 55, 56, 57, 58, 59, 60, 61, 71, 72, 73, 74, 75, 76, 77, 78, 79, 80, 81, 82, 83, 84, 85, 86, 87, 88, 89, 90, 91, 92, 93, 94, 95, 96, 97, 98] (by decide +kernel) (by decide +kernel)
set_option maxRecDepth 20000 in
theorem gX5_prove_X5_mixIn : GoodIn wsX5_prove (wsV RX5 111 RX5 yX5_mixIn wsX5_mixIn) := goodIn_app (goodIn_of _ (by decide +kernel)) ggX5_prove_X5_mixIn
theorem dX5_prove_0 : decode cX5_prove 0 = .ok (.aload_n 0, 1) := by decide +kernel
theorem dX5_prove_1 : decode cX5_prove 1 = .ok (.getfield 178, 3) := by decide +kernel
theorem dX5_prove_4 : decode cX5_prove 4 = .ok (.invokestatic 181, 3) := by decide +kernel
theorem dX5_prove_7 : decode cX5_prove 7 = .ok (.istore_n 2, 1) := by decide +kernel
theorem dX5_prove_8 : decode cX5_prove 8 = .ok (.iload_n 1, 1) := by decide +kernel
theorem dX5_prove_9 : decode cX5_prove 9 = .ok (.ifCond .lt 8, 3) := by decide +kernel
theorem dX5_prove_12 : decode cX5_prove 12 = .ok (.iload_n 1, 1) := by decide +kernel
theorem dX5_prove_13 : decode cX5_prove 13 = .ok (.iload_n 2, 1) := by decide +kernel
theorem dX5_prove_14 : decode cX5_prove 14 = .ok (.if_icmp .lt 6, 3) := by decide +kernel
theorem dX5_prove_17 : decode cX5_prove 17 = .ok (.bipush (-2), 2) := by decide +kernel
theorem dX5_prove_19 : decode cX5_prove 19 = .ok (.ireturn, 1) := by decide +kernel
theorem dX5_prove_20 : decode cX5_prove 20 = .ok (.aload_n 0, 1) := by decide +kernel
theorem dX5_prove_21 : decode cX5_prove 21 = .ok (.iconst (-1), 1) := by decide +kernel
theorem dX5_prove_22 : decode cX5_prove 22 = .ok (.invokevirtual 139, 3) := by decide +kernel
theorem dX5_prove_25 : decode cX5_prove 25 = .ok (.aload_n 0, 1) := by decide +kernel
theorem dX5_prove_26 : decode cX5_prove 26 = .ok (.iconst 0, 1) := by decide +kernel
theorem dX5_prove_27 : decode cX5_prove 27 = .ok (.putfield 188, 3) := by decide +kernel
theorem dX5_prove_30 : decode cX5_prove 30 = .ok (.aload_n 0, 1) := by decide +kernel
theorem dX5_prove_31 : decode cX5_prove 31 = .ok (.getfield 178, 3) := by decide +kernel
theorem dX5_prove_34 : decode cX5_prove 34 = .ok (.iload_n 1, 1) := by decide +kernel
theorem dX5_prove_35 : decode cX5_prove 35 = .ok (.invokestatic 129, 3) := by decide +kernel
theorem dX5_prove_38 : decode cX5_prove 38 = .ok (.istore_n 3, 1) := by decide +kernel
theorem dX5_prove_39 : decode cX5_prove 39 = .ok (.iconst 0, 1) := by decide +kernel
theorem dX5_prove_40 : decode cX5_prove 40 = .ok (.istore 4, 2) := by decide +kernel
theorem dX5_prove_42 : decode cX5_prove 42 = .ok (.iload 4, 2) := by decide +kernel
theorem dX5_prove_44 : decode cX5_prove 44 = .ok (.iload_n 3, 1) := by decide +kernel
theorem dX5_prove_45 : decode cX5_prove 45 = .ok (.if_icmp .ge 41, 3) := by decide +kernel
theorem dX5_prove_48 : decode cX5_prove 48 = .ok (.aload_n 0, 1) := by decide +kernel
theorem dX5_prove_49 : decode cX5_prove 49 = .ok (.getfield 38, 3) := by decide +kernel
theorem dX5_prove_52 : decode cX5_prove 52 = .ok (.aload_n 0, 1) := by decide +kernel
theorem dX5_prove_53 : decode cX5_prove 53 = .ok (.getfield 188, 3) := by decide +kernel
theorem dX5_prove_56 : decode cX5_prove 56 = .ok (.aload_n 0, 1) := by decide +kernel
theorem dX5_prove_57 : decode cX5_prove 57 = .ok (.getfield 35, 3) := by decide +kernel
theorem dX5_prove_60 : decode cX5_prove 60 = .ok (.sipush 1024, 3) := by decide +kernel
theorem dX5_prove_63 : decode cX5_prove 63 = .ok (.iload_n 1, 1) := by decide +kernel
theorem dX5_prove_64 : decode cX5_prove 64 = .ok (.imul, 1) := by decide +kernel
theorem dX5_prove_65 : decode cX5_prove 65 = .ok (.iload 4, 2) := by decide +kernel
theorem dX5_prove_67 : decode cX5_prove 67 = .ok (.iadd, 1) := by decide +kernel
theorem dX5_prove_68 : decode cX5_prove 68 = .ok (.iaload, 1) := by decide +kernel
theorem dX5_prove_69 : decode cX5_prove 69 = .ok (.iastore, 1) := by decide +kernel
theorem dX5_prove_70 : decode cX5_prove 70 = .ok (.aload_n 0, 1) := by decide +kernel
theorem dX5_prove_71 : decode cX5_prove 71 = .ok (.dup, 1) := by decide +kernel
theorem dX5_prove_72 : decode cX5_prove 72 = .ok (.getfield 188, 3) := by decide +kernel
theorem dX5_prove_75 : decode cX5_prove 75 = .ok (.iconst 1, 1) := by decide +kernel
theorem dX5_prove_76 : decode cX5_prove 76 = .ok (.iadd, 1) := by decide +kernel
theorem dX5_prove_77 : decode cX5_prove 77 = .ok (.putfield 188, 3) := by decide +kernel
theorem dX5_prove_80 : decode cX5_prove 80 = .ok (.iinc 4 1, 3) := by decide +kernel
theorem dX5_prove_83 : decode cX5_prove 83 = .ok (.goto (-41), 3) := by decide +kernel
theorem dX5_prove_86 : decode cX5_prove 86 = .ok (.iconst 0, 1) := by decide +kernel
theorem dX5_prove_87 : decode cX5_prove 87 = .ok (.istore 4, 2) := by decide +kernel
theorem dX5_prove_89 : decode cX5_prove 89 = .ok (.iload_n 2, 1) := by decide +kernel
theorem dX5_prove_90 : decode cX5_prove 90 = .ok (.istore 5, 2) := by decide +kernel
theorem dX5_prove_92 : decode cX5_prove 92 = .ok (.iload 5, 2) := by decide +kernel
theorem dX5_prove_94 : decode cX5_prove 94 = .ok (.iconst 1, 1) := by decide +kernel
theorem dX5_prove_95 : decode cX5_prove 95 = .ok (.if_icmp .le 169, 3) := by decide +kernel
theorem dX5_prove_98 : decode cX5_prove 98 = .ok (.iload 5, 2) := by decide +kernel
theorem dX5_prove_100 : decode cX5_prove 100 = .ok (.invokestatic 191, 3) := by decide +kernel
theorem dX5_prove_103 : decode cX5_prove 103 = .ok (.istore 6, 2) := by decide +kernel
theorem dX5_prove_105 : decode cX5_prove 105 = .ok (.iload_n 1, 1) := by decide +kernel
theorem dX5_prove_106 : decode cX5_prove 106 = .ok (.iload 4, 2) := by decide +kernel
theorem dX5_prove_108 : decode cX5_prove 108 = .ok (.iload 6, 2) := by decide +kernel
theorem dX5_prove_110 : decode cX5_prove 110 = .ok (.iadd, 1) := by decide +kernel
theorem dX5_prove_111 : decode cX5_prove 111 = .ok (.if_icmp .ge 7, 3) := by decide +kernel
theorem dX5_prove_114 : decode cX5_prove 114 = .ok (.iconst 1, 1) := by decide +kernel
theorem dX5_prove_115 : decode cX5_prove 115 = .ok (.goto 4, 3) := by decide +kernel
theorem dX5_prove_118 : decode cX5_prove 118 = .ok (.iconst 0, 1) := by decide +kernel
theorem dX5_prove_119 : decode cX5_prove 119 = .ok (.istore 7, 2) := by decide +kernel
theorem dX5_prove_121 : decode cX5_prove 121 = .ok (.aload_n 0, 1) := by decide +kernel
theorem dX5_prove_122 : decode cX5_prove 122 = .ok (.aload_n 0, 1) := by decide +kernel
theorem dX5_prove_123 : decode cX5_prove 123 = .ok (.getfield 35, 3) := by decide +kernel
theorem dX5_prove_126 : decode cX5_prove 126 = .ok (.iconst 0, 1) := by decide +kernel
theorem dX5_prove_127 : decode cX5_prove 127 = .ok (.aload_n 0, 1) := by decide +kernel
theorem dX5_prove_128 : decode cX5_prove 128 = .ok (.getfield 178, 3) := by decide +kernel
theorem dX5_prove_131 : decode cX5_prove 131 = .ok (.iload 7, 2) := by decide +kernel
theorem dX5_prove_133 : decode cX5_prove 133 = .ok (.ifCond .eq 11, 3) := by decide +kernel
theorem dX5_prove_136 : decode cX5_prove 136 = .ok (.iload 4, 2) := by decide +kernel
theorem dX5_prove_138 : decode cX5_prove 138 = .ok (.iload 6, 2) := by decide +kernel
theorem dX5_prove_140 : decode cX5_prove 140 = .ok (.iadd, 1) := by decide +kernel
theorem dX5_prove_141 : decode cX5_prove 141 = .ok (.goto 5, 3) := by decide +kernel
theorem dX5_prove_144 : decode cX5_prove 144 = .ok (.iload 4, 2) := by decide +kernel
theorem dX5_prove_146 : decode cX5_prove 146 = .ok (.iload 7, 2) := by decide +kernel
theorem dX5_prove_148 : decode cX5_prove 148 = .ok (.ifCond .eq 11, 3) := by decide +kernel
theorem dX5_prove_151 : decode cX5_prove 151 = .ok (.iload 4, 2) := by decide +kernel
theorem dX5_prove_153 : decode cX5_prove 153 = .ok (.iload 5, 2) := by decide +kernel
theorem dX5_prove_155 : decode cX5_prove 155 = .ok (.iadd, 1) := by decide +kernel
theorem dX5_prove_156 : decode cX5_prove 156 = .ok (.goto 8, 3) := by decide +kernel
theorem dX5_prove_159 : decode cX5_prove 159 = .ok (.iload 4, 2) := by decide +kernel
theorem dX5_prove_161 : decode cX5_prove 161 = .ok (.iload 6, 2) := by decide +kernel
theorem dX5_prove_163 : decode cX5_prove 163 = .ok (.iadd, 1) := by decide +kernel
theorem dX5_prove_164 : decode cX5_prove 164 = .ok (.invokevirtual 184, 3) := by decide +kernel
theorem dX5_prove_167 : decode cX5_prove 167 = .ok (.aload_n 0, 1) := by decide +kernel
theorem dX5_prove_168 : decode cX5_prove 168 = .ok (.invokevirtual 111, 3) := by decide +kernel
theorem dX5_prove_171 : decode cX5_prove 171 = .ok (.iconst 0, 1) := by decide +kernel
theorem dX5_prove_172 : decode cX5_prove 172 = .ok (.istore 8, 2) := by decide +kernel
theorem dX5_prove_174 : decode cX5_prove 174 = .ok (.iload 8, 2) := by decide +kernel
theorem dX5_prove_176 : decode cX5_prove 176 = .ok (.bipush 32, 2) := by decide +kernel
theorem dX5_prove_178 : decode cX5_prove 178 = .ok (.if_icmp .ge 49, 3) := by decide +kernel
theorem dX5_prove_181 : decode cX5_prove 181 = .ok (.aload_n 0, 1) := by decide +kernel
theorem dX5_prove_182 : decode cX5_prove 182 = .ok (.getfield 38, 3) := by decide +kernel
theorem dX5_prove_185 : decode cX5_prove 185 = .ok (.aload_n 0, 1) := by decide +kernel
theorem dX5_prove_186 : decode cX5_prove 186 = .ok (.getfield 188, 3) := by decide +kernel
theorem dX5_prove_189 : decode cX5_prove 189 = .ok (.aload_n 0, 1) := by decide +kernel
theorem dX5_prove_190 : decode cX5_prove 190 = .ok (.getfield 47, 3) := by decide +kernel
theorem dX5_prove_193 : decode cX5_prove 193 = .ok (.iload 8, 2) := by decide +kernel
theorem dX5_prove_195 : decode cX5_prove 195 = .ok (.iconst 4, 1) := by decide +kernel
theorem dX5_prove_196 : decode cX5_prove 196 = .ok (.idiv, 1) := by decide +kernel
theorem dX5_prove_197 : decode cX5_prove 197 = .ok (.iaload, 1) := by decide +kernel
theorem dX5_prove_198 : decode cX5_prove 198 = .ok (.bipush 8, 2) := by decide +kernel
theorem dX5_prove_200 : decode cX5_prove 200 = .ok (.iload 8, 2) := by decide +kernel
theorem dX5_prove_202 : decode cX5_prove 202 = .ok (.iconst 4, 1) := by decide +kernel
theorem dX5_prove_203 : decode cX5_prove 203 = .ok (.irem, 1) := by decide +kernel
theorem dX5_prove_204 : decode cX5_prove 204 = .ok (.imul, 1) := by decide +kernel
theorem dX5_prove_205 : decode cX5_prove 205 = .ok (.ishr, 1) := by decide +kernel
theorem dX5_prove_206 : decode cX5_prove 206 = .ok (.sipush 255, 3) := by decide +kernel
theorem dX5_prove_209 : decode cX5_prove 209 = .ok (.iand, 1) := by decide +kernel
theorem dX5_prove_210 : decode cX5_prove 210 = .ok (.iastore, 1) := by decide +kernel
theorem dX5_prove_211 : decode cX5_prove 211 = .ok (.aload_n 0, 1) := by decide +kernel
theorem dX5_prove_212 : decode cX5_prove 212 = .ok (.dup, 1) := by decide +kernel
theorem dX5_prove_213 : decode cX5_prove 213 = .ok (.getfield 188, 3) := by decide +kernel
theorem dX5_prove_216 : decode cX5_prove 216 = .ok (.iconst 1, 1) := by decide +kernel
theorem dX5_prove_217 : decode cX5_prove 217 = .ok (.iadd, 1) := by decide +kernel
theorem dX5_prove_218 : decode cX5_prove 218 = .ok (.putfield 188, 3) := by decide +kernel
theorem dX5_prove_221 : decode cX5_prove 221 = .ok (.iinc 8 1, 3) := by decide +kernel
theorem dX5_prove_224 : decode cX5_prove 224 = .ok (.goto (-50), 3) := by decide +kernel
theorem dX5_prove_227 : decode cX5_prove 227 = .ok (.iload 7, 2) := by decide +kernel
theorem dX5_prove_229 : decode cX5_prove 229 = .ok (.ifCond .eq 8, 3) := by decide +kernel
theorem dX5_prove_232 : decode cX5_prove 232 = .ok (.iload 4, 2) := by decide +kernel
theorem dX5_prove_234 : decode cX5_prove 234 = .ok (.goto 8, 3) := by decide +kernel
theorem dX5_prove_237 : decode cX5_prove 237 = .ok (.iload 4, 2) := by decide +kernel
theorem dX5_prove_239 : decode cX5_prove 239 = .ok (.iload 6, 2) := by decide +kernel
theorem dX5_prove_241 : decode cX5_prove 241 = .ok (.iadd, 1) := by decide +kernel
theorem dX5_prove_242 : decode cX5_prove 242 = .ok (.istore 4, 2) := by decide +kernel
theorem dX5_prove_244 : decode cX5_prove 244 = .ok (.iload 7, 2) := by decide +kernel
theorem dX5_prove_246 : decode cX5_prove 246 = .ok (.ifCond .eq 8, 3) := by decide +kernel
theorem dX5_prove_249 : decode cX5_prove 249 = .ok (.iload 6, 2) := by decide +kernel
theorem dX5_prove_251 : decode cX5_prove 251 = .ok (.goto 8, 3) := by decide +kernel
theorem dX5_prove_254 : decode cX5_prove 254 = .ok (.iload 5, 2) := by decide +kernel
theorem dX5_prove_256 : decode cX5_prove 256 = .ok (.iload 6, 2) := by decide +kernel
theorem dX5_prove_258 : decode cX5_prove 258 = .ok (.isub, 1) := by decide +kernel
theorem dX5_prove_259 : decode cX5_prove 259 = .ok (.istore 5, 2) := by decide +kernel
theorem dX5_prove_261 : decode cX5_prove 261 = .ok (.goto (-169), 3) := by decide +kernel
theorem dX5_prove_264 : decode cX5_prove 264 = .ok (.aload_n 0, 1) := by decide +kernel
theorem dX5_prove_265 : decode cX5_prove 265 = .ok (.getfield 188, 3) := by decide +kernel
theorem dX5_prove_268 : decode cX5_prove 268 = .ok (.ireturn, 1) := by decide +kernel
theorem dX5_proof_0 : decode cX5_proof 0 = .ok (.iload_n 1, 1) := by decide +kernel
theorem dX5_proof_1 : decode cX5_proof 1 = .ok (.ifCond .lt 20, 3) := by decide +kernel
theorem dX5_proof_4 : decode cX5_proof 4 = .ok (.iload_n 1, 1) := by decide +kernel
theorem dX5_proof_5 : decode cX5_proof 5 = .ok (.aload_n 0, 1) := by decide +kernel
theorem dX5_proof_6 : decode cX5_proof 6 = .ok (.getfield 188, 3) := by decide +kernel
theorem dX5_proof_9 : decode cX5_proof 9 = .ok (.if_icmp .ge 12, 3) := by decide +kernel
theorem dX5_proof_12 : decode cX5_proof 12 = .ok (.aload_n 0, 1) := by decide +kernel
theorem dX5_proof_13 : decode cX5_proof 13 = .ok (.getfield 38, 3) := by decide +kernel
theorem dX5_proof_16 : decode cX5_proof 16 = .ok (.iload_n 1, 1) := by decide +kernel
theorem dX5_proof_17 : decode cX5_proof 17 = .ok (.iaload, 1) := by decide +kernel
theorem dX5_proof_18 : decode cX5_proof 18 = .ok (.goto 4, 3) := by decide +kernel
theorem dX5_proof_21 : decode cX5_proof 21 = .ok (.iconst (-1), 1) := by decide +kernel
theorem dX5_proof_22 : decode cX5_proof 22 = .ok (.ireturn, 1) := by decide +kernel
theorem dX5_forge_0 : decode cX5_forge 0 = .ok (.iload_n 1, 1) := by decide +kernel
theorem dX5_forge_1 : decode cX5_forge 1 = .ok (.ifCond .lt 22, 3) := by decide +kernel
theorem dX5_forge_4 : decode cX5_forge 4 = .ok (.iload_n 1, 1) := by decide +kernel
theorem dX5_forge_5 : decode cX5_forge 5 = .ok (.aload_n 0, 1) := by decide +kernel
theorem dX5_forge_6 : decode cX5_forge 6 = .ok (.getfield 188, 3) := by decide +kernel
theorem dX5_forge_9 : decode cX5_forge 9 = .ok (.if_icmp .ge 14, 3) := by decide +kernel
theorem dX5_forge_12 : decode cX5_forge 12 = .ok (.iload_n 2, 1) := by decide +kernel
theorem dX5_forge_13 : decode cX5_forge 13 = .ok (.ifCond .lt 10, 3) := by decide +kernel
theorem dX5_forge_16 : decode cX5_forge 16 = .ok (.iload_n 2, 1) := by decide +kernel
theorem dX5_forge_17 : decode cX5_forge 17 = .ok (.sipush 255, 3) := by decide +kernel
theorem dX5_forge_20 : decode cX5_forge 20 = .ok (.if_icmp .le 6, 3) := by decide +kernel
theorem dX5_forge_23 : decode cX5_forge 23 = .ok (.bipush (-2), 2) := by decide +kernel
theorem dX5_forge_25 : decode cX5_forge 25 = .ok (.ireturn, 1) := by decide +kernel
theorem dX5_forge_26 : decode cX5_forge 26 = .ok (.aload_n 0, 1) := by decide +kernel
theorem dX5_forge_27 : decode cX5_forge 27 = .ok (.getfield 38, 3) := by decide +kernel
theorem dX5_forge_30 : decode cX5_forge 30 = .ok (.iload_n 1, 1) := by decide +kernel
theorem dX5_forge_31 : decode cX5_forge 31 = .ok (.dup2, 1) := by decide +kernel
theorem dX5_forge_32 : decode cX5_forge 32 = .ok (.iaload, 1) := by decide +kernel
theorem dX5_forge_33 : decode cX5_forge 33 = .ok (.iload_n 2, 1) := by decide +kernel
theorem dX5_forge_34 : decode cX5_forge 34 = .ok (.ixor, 1) := by decide +kernel
theorem dX5_forge_35 : decode cX5_forge 35 = .ok (.iastore, 1) := by decide +kernel
theorem dX5_forge_36 : decode cX5_forge 36 = .ok (.aload_n 0, 1) := by decide +kernel
theorem dX5_forge_37 : decode cX5_forge 37 = .ok (.getfield 38, 3) := by decide +kernel
theorem dX5_forge_40 : decode cX5_forge 40 = .ok (.iload_n 1, 1) := by decide +kernel
theorem dX5_forge_41 : decode cX5_forge 41 = .ok (.iaload, 1) := by decide +kernel
theorem dX5_forge_42 : decode cX5_forge 42 = .ok (.ireturn, 1) := by decide +kernel
theorem dX5_cut_0 : decode cX5_cut 0 = .ok (.iload_n 1, 1) := by decide +kernel
theorem dX5_cut_1 : decode cX5_cut 1 = .ok (.ifCond .lt 11, 3) := by decide +kernel
theorem dX5_cut_4 : decode cX5_cut 4 = .ok (.iload_n 1, 1) := by decide +kernel
theorem dX5_cut_5 : decode cX5_cut 5 = .ok (.aload_n 0, 1) := by decide +kernel
theorem dX5_cut_6 : decode cX5_cut 6 = .ok (.getfield 188, 3) := by decide +kernel
theorem dX5_cut_9 : decode cX5_cut 9 = .ok (.if_icmp .le 6, 3) := by decide +kernel
theorem dX5_cut_12 : decode cX5_cut 12 = .ok (.bipush (-2), 2) := by decide +kernel
theorem dX5_cut_14 : decode cX5_cut 14 = .ok (.ireturn, 1) := by decide +kernel
theorem dX5_cut_15 : decode cX5_cut 15 = .ok (.aload_n 0, 1) := by decide +kernel
theorem dX5_cut_16 : decode cX5_cut 16 = .ok (.getfield 188, 3) := by decide +kernel
theorem dX5_cut_19 : decode cX5_cut 19 = .ok (.iload_n 1, 1) := by decide +kernel
theorem dX5_cut_20 : decode cX5_cut 20 = .ok (.isub, 1) := by decide +kernel
theorem dX5_cut_21 : decode cX5_cut 21 = .ok (.istore_n 2, 1) := by decide +kernel
theorem dX5_cut_22 : decode cX5_cut 22 = .ok (.aload_n 0, 1) := by decide +kernel
theorem dX5_cut_23 : decode cX5_cut 23 = .ok (.iload_n 1, 1) := by decide +kernel
theorem dX5_cut_24 : decode cX5_cut 24 = .ok (.putfield 188, 3) := by decide +kernel
theorem dX5_cut_27 : decode cX5_cut 27 = .ok (.iload_n 2, 1) := by decide +kernel
theorem dX5_cut_28 : decode cX5_cut 28 = .ok (.ireturn, 1) := by decide +kernel
set_option maxRecDepth 20000 in
theorem ggX5_check_X5_isRegister : GoodIn wsX5_check wsX5_isRegister := goodIn_r _ [18] (by decide +kernel) (by decide +kernel)
set_option maxRecDepth 20000 in
theorem gX5_check_X5_isRegister : GoodIn wsX5_check (va_wsS RX5 147 yX5_isRegister wsX5_isRegister) := goodIn_app (goodIn_of _ (by decide +kernel)) ggX5_check_X5_isRegister
set_option maxRecDepth 20000 in
theorem ggX5_check_X5_chunksOf : GoodIn wsX5_check wsX5_chunksOf := goodIn_r _ [21] (by decide +kernel) (by decide +kernel)
set_option maxRecDepth 20000 in
theorem gX5_check_X5_chunksOf : GoodIn wsX5_check (va_wsS RX5 181 yX5_chunksOf wsX5_chunksOf) := goodIn_app (goodIn_of _ (by decide +kernel)) ggX5_check_X5_chunksOf
set_option maxRecDepth 20000 in
theorem ggX5_check_X5_leftOf : GoodIn wsX5_check wsX5_leftOf := goodIn_r _ [24] (by decide +kernel) (by decide +kernel)
set_option maxRecDepth 20000 in
theorem gX5_check_X5_leftOf : GoodIn wsX5_check (va_wsS RX5 191 yX5_leftOf wsX5_leftOf) := goodIn_app (goodIn_of _ (by decide +kernel)) ggX5_check_X5_leftOf
set_option maxRecDepth 20000 in
theorem ggX5_check_X5_chunkSize : GoodIn wsX5_check wsX5_chunkSize := goodIn_r _ [27] (by decide +kernel) (by decide +kernel)
set_option maxRecDepth 20000 in
theorem gX5_check_X5_chunkSize : GoodIn wsX5_check (va_wsS RX5 129 yX5_chunkSize wsX5_chunkSize) := goodIn_app (goodIn_of _ (by decide +kernel)) ggX5_check_X5_chunkSize
set_option maxRecDepth 20000 in
theorem ggX5_check_X5_useKey : GoodIn wsX5_check wsX5_useKey := goodIn_r _ [31, 8, 32, 33, 34, 11, 60, 61, 62, 63, 64, 65, 66, 67, 68, 69, 70, 71, 72, 73, 74, 75, 76, 77, 78, 79, 80, 81, 82, 83, 84, 85, 86, 87] (by decide +kernel) (by decide +kernel)
set_option maxRecDepth 20000 in
theorem gX5_check_X5_useKey : GoodIn wsX5_check (wsV RX5 139 RX5 yX5_useKey wsX5_useKey) := goodIn_app (goodIn_of _ (by decide +kernel)) ggX5_check_X5_useKey
set_option maxRecDepth 20000 in
theorem ggX5_check_X5_chunk : GoodIn wsX5_check wsX5_chunk := goodIn_r _ [38, 7, 8, 9, 10, 6, 11, 12, 39, 40, 41, 17, 42, 14, 43, 44, 45, 46, 32, 47, 48, 49, 50, 51, 52, 53, 54, 55, 56, 60, 61, 62, 63, 64, 65, 66, 67, 68, 69, 70, 71, 72, 73, 74, 75, 76, 77, 78, 79, 80, 81, 82, 83, 84, 85, 86, 87] (by decide +kernel) (by decide +kernel)
set_option maxRecDepth 20000 in
theorem gX5_check_X5_chunk : GoodIn wsX5_check (wsV RX5 132 RX5 yX5_chunk wsX5_chunk) := goodIn_app (goodIn_of _ (by decide +kernel)) ggX5_check_X5_chunk
set_option maxRecDepth 20000 in
theorem ggX5_check_X5_mixIn : GoodIn wsX5_check wsX5_mixIn := goodIn_r _ [42, 9, 12, 7, 14, 43, 44, 45, 17, 46, 32, 10, 47, 6, 48, 49, 50, 51, 52, 53, 54, 55, 56, 60, 61, 62, 63, 64, 65, 66, 67, 68, 69, 70, 71, 72, 73, 74, 75, 76, 77, 78, 79, 80, 81, 82, 83, 84, 85, 86, 87] (by decide +kernel) (by decide +kernel)
set_option maxRecDepth 20000 in
theorem gX5_check_X5_mixIn : GoodIn wsX5_check (wsV RX5 111 RX5 yX5_mixIn wsX5_mixIn) := goodIn_app (goodIn_of _ (by decide +kernel)) ggX5_check_X5_mixIn
set_option maxRecDepth 20000 in
theorem ggX5_check_X5_wordAt : GoodIn wsX5_check wsX5_wordAt := goodIn_r _ [59] (by decide +kernel) (by decide +kernel)
set_option maxRecDepth 20000 in
theorem gX5_check_X5_wordAt : GoodIn wsX5_check (va_wsS RX5 156 yX5_wordAt wsX5_wordAt) := goodIn_app (goodIn_of _ (by decide +kernel)) ggX5_check_X5_wordAt
set_option maxRecDepth 20000 in
theorem ggX5_check_X5_mix : GoodIn wsX5_check wsX5_mix := goodIn_r _ [46, 14, 7, 32, 10, 47, 6, 48, 49, 50, 51, 52, 17, 53, 54, 55, 56, 60, 61, 62, 63, 64, 65, 66, 67, 68, 69, 70, 71, 72, 73, 74, 75, 76, 77, 78, 79, 80, 81, 82, 83, 84, 85, 86, 87] (by decide +kernel) (by decide +kernel)
set_option maxRecDepth 20000 in
theorem gX5_check_X5_mix : GoodIn wsX5_check (wsV RX5 107 RX5 yX5_mix wsX5_mix) := goodIn_app (goodIn_of _ (by decide +kernel)) ggX5_check_X5_mix
theorem dX5_check_0 : decode cX5_check 0 = .ok (.iload_n 1, 1) := by decide +kernel
theorem dX5_check_1 : decode cX5_check 1 = .ok (.invokestatic 147, 3) := by decide +kernel
theorem dX5_check_4 : decode cX5_check 4 = .ok (.ifCond .eq 36, 3) := by decide +kernel
theorem dX5_check_7 : decode cX5_check 7 = .ok (.iload_n 2, 1) := by decide +kernel
theorem dX5_check_8 : decode cX5_check 8 = .ok (.ifCond .lt 32, 3) := by decide +kernel
theorem dX5_check_11 : decode cX5_check 11 = .ok (.iload_n 2, 1) := by decide +kernel
theorem dX5_check_12 : decode cX5_check 12 = .ok (.ldc 194, 2) := by decide +kernel
theorem dX5_check_14 : decode cX5_check 14 = .ok (.if_icmp .gt 26, 3) := by decide +kernel
theorem dX5_check_17 : decode cX5_check 17 = .ok (.iload_n 3, 1) := by decide +kernel
theorem dX5_check_18 : decode cX5_check 18 = .ok (.ifCond .lt 22, 3) := by decide +kernel
theorem dX5_check_21 : decode cX5_check 21 = .ok (.iload_n 3, 1) := by decide +kernel
theorem dX5_check_22 : decode cX5_check 22 = .ok (.iload_n 2, 1) := by decide +kernel
theorem dX5_check_23 : decode cX5_check 23 = .ok (.invokestatic 181, 3) := by decide +kernel
theorem dX5_check_26 : decode cX5_check 26 = .ok (.if_icmp .ge 14, 3) := by decide +kernel
theorem dX5_check_29 : decode cX5_check 29 = .ok (.aload_n 0, 1) := by decide +kernel
theorem dX5_check_30 : decode cX5_check 30 = .ok (.getfield 13, 3) := by decide +kernel
theorem dX5_check_33 : decode cX5_check 33 = .ok (.iload_n 1, 1) := by decide +kernel
theorem dX5_check_34 : decode cX5_check 34 = .ok (.iaload, 1) := by decide +kernel
theorem dX5_check_35 : decode cX5_check 35 = .ok (.bipush 32, 2) := by decide +kernel
theorem dX5_check_37 : decode cX5_check 37 = .ok (.if_icmp .eq 6, 3) := by decide +kernel
theorem dX5_check_40 : decode cX5_check 40 = .ok (.bipush (-2), 2) := by decide +kernel
theorem dX5_check_42 : decode cX5_check 42 = .ok (.ireturn, 1) := by decide +kernel
theorem dX5_check_43 : decode cX5_check 43 = .ok (.iconst 0, 1) := by decide +kernel
theorem dX5_check_44 : decode cX5_check 44 = .ok (.istore 4, 2) := by decide +kernel
theorem dX5_check_46 : decode cX5_check 46 = .ok (.iconst 0, 1) := by decide +kernel
theorem dX5_check_47 : decode cX5_check 47 = .ok (.istore 5, 2) := by decide +kernel
theorem dX5_check_49 : decode cX5_check 49 = .ok (.iload_n 2, 1) := by decide +kernel
theorem dX5_check_50 : decode cX5_check 50 = .ok (.invokestatic 181, 3) := by decide +kernel
theorem dX5_check_53 : decode cX5_check 53 = .ok (.istore 6, 2) := by decide +kernel
theorem dX5_check_55 : decode cX5_check 55 = .ok (.iload 6, 2) := by decide +kernel
theorem dX5_check_57 : decode cX5_check 57 = .ok (.iconst 1, 1) := by decide +kernel
theorem dX5_check_58 : decode cX5_check 58 = .ok (.if_icmp .le 81, 3) := by decide +kernel
theorem dX5_check_61 : decode cX5_check 61 = .ok (.iload 6, 2) := by decide +kernel
theorem dX5_check_63 : decode cX5_check 63 = .ok (.invokestatic 191, 3) := by decide +kernel
theorem dX5_check_66 : decode cX5_check 66 = .ok (.istore 7, 2) := by decide +kernel
theorem dX5_check_68 : decode cX5_check 68 = .ok (.aload_n 0, 1) := by decide +kernel
theorem dX5_check_69 : decode cX5_check 69 = .ok (.getfield 68, 3) := by decide +kernel
theorem dX5_check_72 : decode cX5_check 72 = .ok (.iload 4, 2) := by decide +kernel
theorem dX5_check_74 : decode cX5_check 74 = .ok (.iload_n 3, 1) := by decide +kernel
theorem dX5_check_75 : decode cX5_check 75 = .ok (.iload 5, 2) := by decide +kernel
theorem dX5_check_77 : decode cX5_check 77 = .ok (.iload 7, 2) := by decide +kernel
theorem dX5_check_79 : decode cX5_check 79 = .ok (.iadd, 1) := by decide +kernel
theorem dX5_check_80 : decode cX5_check 80 = .ok (.if_icmp .ge 7, 3) := by decide +kernel
theorem dX5_check_83 : decode cX5_check 83 = .ok (.iconst 1, 1) := by decide +kernel
theorem dX5_check_84 : decode cX5_check 84 = .ok (.goto 4, 3) := by decide +kernel
theorem dX5_check_87 : decode cX5_check 87 = .ok (.iconst 0, 1) := by decide +kernel
theorem dX5_check_88 : decode cX5_check 88 = .ok (.bastore, 1) := by decide +kernel
theorem dX5_check_89 : decode cX5_check 89 = .ok (.aload_n 0, 1) := by decide +kernel
theorem dX5_check_90 : decode cX5_check 90 = .ok (.getfield 68, 3) := by decide +kernel
theorem dX5_check_93 : decode cX5_check 93 = .ok (.iload 4, 2) := by decide +kernel
theorem dX5_check_95 : decode cX5_check 95 = .ok (.baload, 1) := by decide +kernel
theorem dX5_check_96 : decode cX5_check 96 = .ok (.ifCond .eq 8, 3) := by decide +kernel
theorem dX5_check_99 : decode cX5_check 99 = .ok (.iload 5, 2) := by decide +kernel
theorem dX5_check_101 : decode cX5_check 101 = .ok (.goto 8, 3) := by decide +kernel
theorem dX5_check_104 : decode cX5_check 104 = .ok (.iload 5, 2) := by decide +kernel
theorem dX5_check_106 : decode cX5_check 106 = .ok (.iload 7, 2) := by decide +kernel
theorem dX5_check_108 : decode cX5_check 108 = .ok (.iadd, 1) := by decide +kernel
theorem dX5_check_109 : decode cX5_check 109 = .ok (.istore 5, 2) := by decide +kernel
theorem dX5_check_111 : decode cX5_check 111 = .ok (.aload_n 0, 1) := by decide +kernel
theorem dX5_check_112 : decode cX5_check 112 = .ok (.getfield 68, 3) := by decide +kernel
theorem dX5_check_115 : decode cX5_check 115 = .ok (.iload 4, 2) := by decide +kernel
theorem dX5_check_117 : decode cX5_check 117 = .ok (.baload, 1) := by decide +kernel
theorem dX5_check_118 : decode cX5_check 118 = .ok (.ifCond .eq 8, 3) := by decide +kernel
theorem dX5_check_121 : decode cX5_check 121 = .ok (.iload 7, 2) := by decide +kernel
theorem dX5_check_123 : decode cX5_check 123 = .ok (.goto 8, 3) := by decide +kernel
theorem dX5_check_126 : decode cX5_check 126 = .ok (.iload 6, 2) := by decide +kernel
theorem dX5_check_128 : decode cX5_check 128 = .ok (.iload 7, 2) := by decide +kernel
theorem dX5_check_130 : decode cX5_check 130 = .ok (.isub, 1) := by decide +kernel
theorem dX5_check_131 : decode cX5_check 131 = .ok (.istore 6, 2) := by decide +kernel
theorem dX5_check_133 : decode cX5_check 133 = .ok (.iinc 4 1, 3) := by decide +kernel
theorem dX5_check_136 : decode cX5_check 136 = .ok (.goto (-81), 3) := by decide +kernel
theorem dX5_check_139 : decode cX5_check 139 = .ok (.iload_n 2, 1) := by decide +kernel
theorem dX5_check_140 : decode cX5_check 140 = .ok (.iload_n 3, 1) := by decide +kernel
theorem dX5_check_141 : decode cX5_check 141 = .ok (.invokestatic 129, 3) := by decide +kernel
theorem dX5_check_144 : decode cX5_check 144 = .ok (.istore 7, 2) := by decide +kernel
theorem dX5_check_146 : decode cX5_check 146 = .ok (.aload_n 0, 1) := by decide +kernel
theorem dX5_check_147 : decode cX5_check 147 = .ok (.getfield 188, 3) := by decide +kernel
theorem dX5_check_150 : decode cX5_check 150 = .ok (.iload 7, 2) := by decide +kernel
theorem dX5_check_152 : decode cX5_check 152 = .ok (.bipush 32, 2) := by decide +kernel
theorem dX5_check_154 : decode cX5_check 154 = .ok (.iload 4, 2) := by decide +kernel
theorem dX5_check_156 : decode cX5_check 156 = .ok (.imul, 1) := by decide +kernel
theorem dX5_check_157 : decode cX5_check 157 = .ok (.iadd, 1) := by decide +kernel
theorem dX5_check_158 : decode cX5_check 158 = .ok (.if_icmp .eq 5, 3) := by decide +kernel
theorem dX5_check_161 : decode cX5_check 161 = .ok (.iconst 0, 1) := by decide +kernel
theorem dX5_check_162 : decode cX5_check 162 = .ok (.ireturn, 1) := by decide +kernel
theorem dX5_check_163 : decode cX5_check 163 = .ok (.aload_n 0, 1) := by decide +kernel
theorem dX5_check_164 : decode cX5_check 164 = .ok (.iconst (-1), 1) := by decide +kernel
theorem dX5_check_165 : decode cX5_check 165 = .ok (.invokevirtual 139, 3) := by decide +kernel
theorem dX5_check_168 : decode cX5_check 168 = .ok (.aload_n 0, 1) := by decide +kernel
theorem dX5_check_169 : decode cX5_check 169 = .ok (.aload_n 0, 1) := by decide +kernel
theorem dX5_check_170 : decode cX5_check 170 = .ok (.getfield 38, 3) := by decide +kernel
theorem dX5_check_173 : decode cX5_check 173 = .ok (.iconst 0, 1) := by decide +kernel
theorem dX5_check_174 : decode cX5_check 174 = .ok (.iload 7, 2) := by decide +kernel
theorem dX5_check_176 : decode cX5_check 176 = .ok (.iload_n 3, 1) := by decide +kernel
theorem dX5_check_177 : decode cX5_check 177 = .ok (.i2l, 1) := by decide +kernel
theorem dX5_check_178 : decode cX5_check 178 = .ok (.invokevirtual 132, 3) := by decide +kernel
theorem dX5_check_181 : decode cX5_check 181 = .ok (.iload 4, 2) := by decide +kernel
theorem dX5_check_183 : decode cX5_check 183 = .ok (.iconst 1, 1) := by decide +kernel
theorem dX5_check_184 : decode cX5_check 184 = .ok (.isub, 1) := by decide +kernel
theorem dX5_check_185 : decode cX5_check 185 = .ok (.istore 8, 2) := by decide +kernel
theorem dX5_check_187 : decode cX5_check 187 = .ok (.iload 8, 2) := by decide +kernel
theorem dX5_check_189 : decode cX5_check 189 = .ok (.ifCond .lt 167, 3) := by decide +kernel
theorem dX5_check_192 : decode cX5_check 192 = .ok (.aload_n 0, 1) := by decide +kernel
theorem dX5_check_193 : decode cX5_check 193 = .ok (.invokevirtual 111, 3) := by decide +kernel
theorem dX5_check_196 : decode cX5_check 196 = .ok (.iload 7, 2) := by decide +kernel
theorem dX5_check_198 : decode cX5_check 198 = .ok (.bipush 32, 2) := by decide +kernel
theorem dX5_check_200 : decode cX5_check 200 = .ok (.iload 8, 2) := by decide +kernel
theorem dX5_check_202 : decode cX5_check 202 = .ok (.imul, 1) := by decide +kernel
theorem dX5_check_203 : decode cX5_check 203 = .ok (.iadd, 1) := by decide +kernel
theorem dX5_check_204 : decode cX5_check 204 = .ok (.istore 9, 2) := by decide +kernel
theorem dX5_check_206 : decode cX5_check 206 = .ok (.iconst 0, 1) := by decide +kernel
theorem dX5_check_207 : decode cX5_check 207 = .ok (.istore 10, 2) := by decide +kernel
theorem dX5_check_209 : decode cX5_check 209 = .ok (.iload 10, 2) := by decide +kernel
theorem dX5_check_211 : decode cX5_check 211 = .ok (.bipush 8, 2) := by decide +kernel
theorem dX5_check_213 : decode cX5_check 213 = .ok (.if_icmp .ge 86, 3) := by decide +kernel
theorem dX5_check_216 : decode cX5_check 216 = .ok (.aload_n 0, 1) := by decide +kernel
theorem dX5_check_217 : decode cX5_check 217 = .ok (.getfield 38, 3) := by decide +kernel
theorem dX5_check_220 : decode cX5_check 220 = .ok (.iload 9, 2) := by decide +kernel
theorem dX5_check_222 : decode cX5_check 222 = .ok (.iconst 4, 1) := by decide +kernel
theorem dX5_check_223 : decode cX5_check 223 = .ok (.iload 10, 2) := by decide +kernel
theorem dX5_check_225 : decode cX5_check 225 = .ok (.imul, 1) := by decide +kernel
theorem dX5_check_226 : decode cX5_check 226 = .ok (.iadd, 1) := by decide +kernel
theorem dX5_check_227 : decode cX5_check 227 = .ok (.invokestatic 156, 3) := by decide +kernel
theorem dX5_check_230 : decode cX5_check 230 = .ok (.istore 11, 2) := by decide +kernel
theorem dX5_check_232 : decode cX5_check 232 = .ok (.aload_n 0, 1) := by decide +kernel
theorem dX5_check_233 : decode cX5_check 233 = .ok (.getfield 50, 3) := by decide +kernel
theorem dX5_check_236 : decode cX5_check 236 = .ok (.iload 10, 2) := by decide +kernel
theorem dX5_check_238 : decode cX5_check 238 = .ok (.aload_n 0, 1) := by decide +kernel
theorem dX5_check_239 : decode cX5_check 239 = .ok (.getfield 68, 3) := by decide +kernel
theorem dX5_check_242 : decode cX5_check 242 = .ok (.iload 8, 2) := by decide +kernel
theorem dX5_check_244 : decode cX5_check 244 = .ok (.baload, 1) := by decide +kernel
theorem dX5_check_245 : decode cX5_check 245 = .ok (.ifCond .eq 13, 3) := by decide +kernel
theorem dX5_check_248 : decode cX5_check 248 = .ok (.aload_n 0, 1) := by decide +kernel
theorem dX5_check_249 : decode cX5_check 249 = .ok (.getfield 47, 3) := by decide +kernel
theorem dX5_check_252 : decode cX5_check 252 = .ok (.iload 10, 2) := by decide +kernel
theorem dX5_check_254 : decode cX5_check 254 = .ok (.iaload, 1) := by decide +kernel
theorem dX5_check_255 : decode cX5_check 255 = .ok (.goto 5, 3) := by decide +kernel
theorem dX5_check_258 : decode cX5_check 258 = .ok (.iload 11, 2) := by decide +kernel
theorem dX5_check_260 : decode cX5_check 260 = .ok (.iastore, 1) := by decide +kernel
theorem dX5_check_261 : decode cX5_check 261 = .ok (.aload_n 0, 1) := by decide +kernel
theorem dX5_check_262 : decode cX5_check 262 = .ok (.getfield 50, 3) := by decide +kernel
theorem dX5_check_265 : decode cX5_check 265 = .ok (.bipush 8, 2) := by decide +kernel
theorem dX5_check_267 : decode cX5_check 267 = .ok (.iload 10, 2) := by decide +kernel
theorem dX5_check_269 : decode cX5_check 269 = .ok (.iadd, 1) := by decide +kernel
theorem dX5_check_270 : decode cX5_check 270 = .ok (.aload_n 0, 1) := by decide +kernel
theorem dX5_check_271 : decode cX5_check 271 = .ok (.getfield 68, 3) := by decide +kernel
theorem dX5_check_274 : decode cX5_check 274 = .ok (.iload 8, 2) := by decide +kernel
theorem dX5_check_276 : decode cX5_check 276 = .ok (.baload, 1) := by decide +kernel
theorem dX5_check_277 : decode cX5_check 277 = .ok (.ifCond .eq 8, 3) := by decide +kernel
theorem dX5_check_280 : decode cX5_check 280 = .ok (.iload 11, 2) := by decide +kernel
theorem dX5_check_282 : decode cX5_check 282 = .ok (.goto 10, 3) := by decide +kernel
theorem dX5_check_285 : decode cX5_check 285 = .ok (.aload_n 0, 1) := by decide +kernel
theorem dX5_check_286 : decode cX5_check 286 = .ok (.getfield 47, 3) := by decide +kernel
theorem dX5_check_289 : decode cX5_check 289 = .ok (.iload 10, 2) := by decide +kernel
theorem dX5_check_291 : decode cX5_check 291 = .ok (.iaload, 1) := by decide +kernel
theorem dX5_check_292 : decode cX5_check 292 = .ok (.iastore, 1) := by decide +kernel
theorem dX5_check_293 : decode cX5_check 293 = .ok (.iinc 10 1, 3) := by decide +kernel
theorem dX5_check_296 : decode cX5_check 296 = .ok (.goto (-87), 3) := by decide +kernel
theorem dX5_check_299 : decode cX5_check 299 = .ok (.iconst 0, 1) := by decide +kernel
theorem dX5_check_300 : decode cX5_check 300 = .ok (.istore 10, 2) := by decide +kernel
theorem dX5_check_302 : decode cX5_check 302 = .ok (.iload 10, 2) := by decide +kernel
theorem dX5_check_304 : decode cX5_check 304 = .ok (.bipush 8, 2) := by decide +kernel
theorem dX5_check_306 : decode cX5_check 306 = .ok (.if_icmp .ge 23, 3) := by decide +kernel
theorem dX5_check_309 : decode cX5_check 309 = .ok (.aload_n 0, 1) := by decide +kernel
theorem dX5_check_310 : decode cX5_check 310 = .ok (.getfield 47, 3) := by decide +kernel
theorem dX5_check_313 : decode cX5_check 313 = .ok (.iload 10, 2) := by decide +kernel
theorem dX5_check_315 : decode cX5_check 315 = .ok (.aload_n 0, 1) := by decide +kernel
theorem dX5_check_316 : decode cX5_check 316 = .ok (.getfield 44, 3) := by decide +kernel
theorem dX5_check_319 : decode cX5_check 319 = .ok (.iload 10, 2) := by decide +kernel
theorem dX5_check_321 : decode cX5_check 321 = .ok (.iaload, 1) := by decide +kernel
theorem dX5_check_322 : decode cX5_check 322 = .ok (.iastore, 1) := by decide +kernel
theorem dX5_check_323 : decode cX5_check 323 = .ok (.iinc 10 1, 3) := by decide +kernel
theorem dX5_check_326 : decode cX5_check 326 = .ok (.goto (-24), 3) := by decide +kernel
theorem dX5_check_329 : decode cX5_check 329 = .ok (.aload_n 0, 1) := by decide +kernel
theorem dX5_check_330 : decode cX5_check 330 = .ok (.lconst 0, 1) := by decide +kernel
theorem dX5_check_331 : decode cX5_check 331 = .ok (.putfield 100, 3) := by decide +kernel
theorem dX5_check_334 : decode cX5_check 334 = .ok (.aload_n 0, 1) := by decide +kernel
theorem dX5_check_335 : decode cX5_check 335 = .ok (.bipush 64, 2) := by decide +kernel
theorem dX5_check_337 : decode cX5_check 337 = .ok (.putfield 92, 3) := by decide +kernel
theorem dX5_check_340 : decode cX5_check 340 = .ok (.aload_n 0, 1) := by decide +kernel
theorem dX5_check_341 : decode cX5_check 341 = .ok (.aload_n 0, 1) := by decide +kernel
theorem dX5_check_342 : decode cX5_check 342 = .ok (.getfield 114, 3) := by decide +kernel
theorem dX5_check_345 : decode cX5_check 345 = .ok (.iconst 4, 1) := by decide +kernel
theorem dX5_check_346 : decode cX5_check 346 = .ok (.iadd, 1) := by decide +kernel
theorem dX5_check_347 : decode cX5_check 347 = .ok (.putfield 104, 3) := by decide +kernel
theorem dX5_check_350 : decode cX5_check 350 = .ok (.iinc 8 (-1), 3) := by decide +kernel
theorem dX5_check_353 : decode cX5_check 353 = .ok (.goto (-166), 3) := by decide +kernel
theorem dX5_check_356 : decode cX5_check 356 = .ok (.aload_n 0, 1) := by decide +kernel
theorem dX5_check_357 : decode cX5_check 357 = .ok (.lconst 0, 1) := by decide +kernel
theorem dX5_check_358 : decode cX5_check 358 = .ok (.aload_n 0, 1) := by decide +kernel
theorem dX5_check_359 : decode cX5_check 359 = .ok (.getfield 104, 3) := by decide +kernel
theorem dX5_check_362 : decode cX5_check 362 = .ok (.bipush 8, 2) := by decide +kernel
theorem dX5_check_364 : decode cX5_check 364 = .ok (.iadd, 1) := by decide +kernel
theorem dX5_check_365 : decode cX5_check 365 = .ok (.invokevirtual 107, 3) := by decide +kernel
theorem dX5_check_368 : decode cX5_check 368 = .ok (.iconst 1, 1) := by decide +kernel
theorem dX5_check_369 : decode cX5_check 369 = .ok (.istore 8, 2) := by decide +kernel
theorem dX5_check_371 : decode cX5_check 371 = .ok (.iconst 0, 1) := by decide +kernel
theorem dX5_check_372 : decode cX5_check 372 = .ok (.istore 9, 2) := by decide +kernel
theorem dX5_check_374 : decode cX5_check 374 = .ok (.iload 9, 2) := by decide +kernel
theorem dX5_check_376 : decode cX5_check 376 = .ok (.bipush 32, 2) := by decide +kernel
theorem dX5_check_378 : decode cX5_check 378 = .ok (.if_icmp .ge 58, 3) := by decide +kernel
theorem dX5_check_381 : decode cX5_check 381 = .ok (.iload 8, 2) := by decide +kernel
theorem dX5_check_383 : decode cX5_check 383 = .ok (.ifCond .eq 44, 3) := by decide +kernel
theorem dX5_check_386 : decode cX5_check 386 = .ok (.aload_n 0, 1) := by decide +kernel
theorem dX5_check_387 : decode cX5_check 387 = .ok (.getfield 7, 3) := by decide +kernel
theorem dX5_check_390 : decode cX5_check 390 = .ok (.sipush 200, 3) := by decide +kernel
theorem dX5_check_393 : decode cX5_check 393 = .ok (.iload_n 1, 1) := by decide +kernel
theorem dX5_check_394 : decode cX5_check 394 = .ok (.imul, 1) := by decide +kernel
theorem dX5_check_395 : decode cX5_check 395 = .ok (.iload 9, 2) := by decide +kernel
theorem dX5_check_397 : decode cX5_check 397 = .ok (.iadd, 1) := by decide +kernel
theorem dX5_check_398 : decode cX5_check 398 = .ok (.iaload, 1) := by decide +kernel
theorem dX5_check_399 : decode cX5_check 399 = .ok (.aload_n 0, 1) := by decide +kernel
theorem dX5_check_400 : decode cX5_check 400 = .ok (.getfield 53, 3) := by decide +kernel
theorem dX5_check_403 : decode cX5_check 403 = .ok (.iload 9, 2) := by decide +kernel
theorem dX5_check_405 : decode cX5_check 405 = .ok (.iconst 4, 1) := by decide +kernel
theorem dX5_check_406 : decode cX5_check 406 = .ok (.idiv, 1) := by decide +kernel
theorem dX5_check_407 : decode cX5_check 407 = .ok (.iaload, 1) := by decide +kernel
theorem dX5_check_408 : decode cX5_check 408 = .ok (.bipush 8, 2) := by decide +kernel
theorem dX5_check_410 : decode cX5_check 410 = .ok (.iload 9, 2) := by decide +kernel
theorem dX5_check_412 : decode cX5_check 412 = .ok (.iconst 4, 1) := by decide +kernel
theorem dX5_check_413 : decode cX5_check 413 = .ok (.irem, 1) := by decide +kernel
theorem dX5_check_414 : decode cX5_check 414 = .ok (.imul, 1) := by decide +kernel
theorem dX5_check_415 : decode cX5_check 415 = .ok (.ishr, 1) := by decide +kernel
theorem dX5_check_416 : decode cX5_check 416 = .ok (.sipush 255, 3) := by decide +kernel
theorem dX5_check_419 : decode cX5_check 419 = .ok (.iand, 1) := by decide +kernel
theorem dX5_check_420 : decode cX5_check 420 = .ok (.if_icmp .ne 7, 3) := by decide +kernel
theorem dX5_check_423 : decode cX5_check 423 = .ok (.iconst 1, 1) := by decide +kernel
theorem dX5_check_424 : decode cX5_check 424 = .ok (.goto 4, 3) := by decide +kernel
theorem dX5_check_427 : decode cX5_check 427 = .ok (.iconst 0, 1) := by decide +kernel
theorem dX5_check_428 : decode cX5_check 428 = .ok (.istore 8, 2) := by decide +kernel
theorem dX5_check_430 : decode cX5_check 430 = .ok (.iinc 9 1, 3) := by decide +kernel
theorem dX5_check_433 : decode cX5_check 433 = .ok (.goto (-59), 3) := by decide +kernel
theorem dX5_check_436 : decode cX5_check 436 = .ok (.iload 8, 2) := by decide +kernel
theorem dX5_check_438 : decode cX5_check 438 = .ok (.ifCond .eq 7, 3) := by decide +kernel
theorem dX5_check_441 : decode cX5_check 441 = .ok (.iconst 1, 1) := by decide +kernel
theorem dX5_check_442 : decode cX5_check 442 = .ok (.goto 4, 3) := by decide +kernel
theorem dX5_check_445 : decode cX5_check 445 = .ok (.iconst 0, 1) := by decide +kernel
theorem dX5_check_446 : decode cX5_check 446 = .ok (.ireturn, 1) := by decide +kernel
end
section
theorem dJ9_max_7cf53_0 : decode cJ9_max_7cf53 0 = .ok (.iload_n 0, 1) := by decide +kernel
theorem dJ9_max_7cf53_1 : decode cJ9_max_7cf53 1 = .ok (.iload_n 1, 1) := by decide +kernel
theorem dJ9_max_7cf53_2 : decode cJ9_max_7cf53 2 = .ok (.if_icmp .lt 7, 3) := by decide +kernel
theorem dJ9_max_7cf53_5 : decode cJ9_max_7cf53 5 = .ok (.iload_n 0, 1) := by decide +kernel
theorem dJ9_max_7cf53_6 : decode cJ9_max_7cf53 6 = .ok (.goto 4, 3) := by decide +kernel
theorem dJ9_max_7cf53_9 : decode cJ9_max_7cf53 9 = .ok (.iload_n 1, 1) := by decide +kernel
theorem dJ9_max_7cf53_10 : decode cJ9_max_7cf53 10 = .ok (.ireturn, 1) := by decide +kernel
theorem dJ9_min_7cf53_0 : decode cJ9_min_7cf53 0 = .ok (.iload_n 0, 1) := by decide +kernel
theorem dJ9_min_7cf53_1 : decode cJ9_min_7cf53 1 = .ok (.iload_n 1, 1) := by decide +kernel
theorem dJ9_min_7cf53_2 : decode cJ9_min_7cf53 2 = .ok (.if_icmp .gt 7, 3) := by decide +kernel
theorem dJ9_min_7cf53_5 : decode cJ9_min_7cf53 5 = .ok (.iload_n 0, 1) := by decide +kernel
theorem dJ9_min_7cf53_6 : decode cJ9_min_7cf53 6 = .ok (.goto 4, 3) := by decide +kernel
theorem dJ9_min_7cf53_9 : decode cJ9_min_7cf53 9 = .ok (.iload_n 1, 1) := by decide +kernel
theorem dJ9_min_7cf53_10 : decode cJ9_min_7cf53 10 = .ok (.ireturn, 1) := by decide +kernel
set_option maxRecDepth 20000 in
theorem ggL_law_X4_init : GoodIn wsL_law wsX4_init := goodIn_r _ [9, 10, 11, 12, 13, 14, 15, 16, 17, 18, 19, 20, 21, 22, 23, 24, 25, 26, 27, 28, 29, 30, 31, 32, 33, 34, 35, 36, 37, 38, 39, 40, 41, 42, 43, 44, 45, 46, 47, 48, 49, 50, 51, 52, 53, 54, 55, 56, 57, 58, 59, 60, 61, 62, 63, 64, 65, 66, 67, 68, 69, 70, 71, 72, 73, 74, 75, 76, 77, 78, 79, 80, 81, 82, 83, 84, 85, 86, 87, 88, 559, 560, 561, 562, 563, 564, 565, 594, 595, 596, 597, 598, 599, 600, 601, 602, 603, 604, 605, 606, 607, 608, 609, 610, 611, 612, 613, 614, 615, 616, 617, 618, 619] (by decide +kernel) (by decide +kernel)
set_option maxRecDepth 20000 in
theorem gL_law_X4_init : GoodIn wsL_law (wsX4_init) := ggL_law_X4_init
set_option maxRecDepth 20000 in
theorem ggL_law_X5_init : GoodIn wsL_law wsX5_init := goodIn_r _ [91, 92, 11, 12, 28, 93, 94, 95, 96, 97, 98, 99, 100, 101, 102, 103, 104, 105, 106, 107, 108, 109, 110, 111, 112, 113, 114, 115, 116, 117, 118, 119, 120, 121, 122, 123, 124, 125, 126, 127, 5, 128, 566, 567, 568, 569, 570, 571, 572, 573, 574, 575, 576, 577, 578, 579, 580, 581, 582, 583, 584, 585, 586, 587, 588, 589, 590, 591, 592, 593] (by decide +kernel) (by decide +kernel)
set_option maxRecDepth 20000 in
theorem gL_law_X5_init : GoodIn wsL_law (wsX5_init) := ggL_law_X5_init
set_option maxRecDepth 20000 in
theorem ggL_law_X4_add : GoodIn wsL_law wsX4_add := goodIn_r _ [132, 14, 133, 134, 2, 135, 136, 137, 138, 18, 139, 39, 140, 141, 142, 143, 144, 559, 560, 561, 562, 563, 564, 565, 594, 595] (by decide +kernel) (by decide +kernel)
set_option maxRecDepth 20000 in
theorem gL_law_X4_add : GoodIn wsL_law (wsV RL 15 RX4 yX4_add wsX4_add) := goodIn_app (goodIn_of _ (by decide +kernel)) ggL_law_X4_add
set_option maxRecDepth 20000 in
theorem ggL_law_X5_add : GoodIn wsL_law wsX5_add := goodIn_r _ [148, 94, 93, 149, 150, 151, 5, 152, 566, 567, 568, 569, 570, 571, 572, 573, 574, 575, 576, 577, 578, 579, 580, 581, 582, 583, 584, 585, 586, 587, 588, 589, 590, 591, 592, 593] (by decide +kernel) (by decide +kernel)
set_option maxRecDepth 20000 in
theorem gL_law_X5_add : GoodIn wsL_law (wsV RL 19 RX5 yX5_add wsX5_add) := goodIn_app (goodIn_of _ (by decide +kernel)) ggL_law_X5_add
set_option maxRecDepth 20000 in
theorem ggL_law_X4_clear : GoodIn wsL_law wsX4_clear := goodIn_r _ [156, 14, 133, 134, 2, 135, 157, 158, 159, 18, 160, 140, 559, 560, 561, 562, 563, 564, 565, 594, 595] (by decide +kernel) (by decide +kernel)
set_option maxRecDepth 20000 in
theorem gL_law_X4_clear : GoodIn wsL_law (wsV RL 20 RX4 yX4_clear wsX4_clear) := goodIn_app (goodIn_of _ (by decide +kernel)) ggL_law_X4_clear
set_option maxRecDepth 20000 in
theorem ggL_law_X5_clear : GoodIn wsL_law wsX5_clear := goodIn_r _ [164, 94, 150, 151, 5, 152, 566, 567, 568, 569, 570, 571, 572, 573, 574, 575, 576, 577, 578, 579, 580, 581, 582, 583, 584, 585, 586, 587, 588, 589, 590, 591, 592, 593] (by decide +kernel) (by decide +kernel)
set_option maxRecDepth 20000 in
theorem gL_law_X5_clear : GoodIn wsL_law (wsV RL 24 RX5 yX5_clear wsX5_clear) := goodIn_app (goodIn_of _ (by decide +kernel)) ggL_law_X5_clear
set_option maxRecDepth 20000 in
theorem ggL_law_X4_size : GoodIn wsL_law wsX4_size := goodIn_r _ [168, 14, 133, 134, 2, 135, 559, 560, 561, 562, 563, 564, 565, 594, 595] (by decide +kernel) (by decide +kernel)
set_option maxRecDepth 20000 in
theorem gL_law_X4_size : GoodIn wsL_law (wsV RL 25 RX4 yX4_size wsX4_size) := goodIn_app (goodIn_of _ (by decide +kernel)) ggL_law_X4_size
set_option maxRecDepth 20000 in
theorem ggL_law_X5_size : GoodIn wsL_law wsX5_size := goodIn_r _ [172, 94, 150, 151, 5, 152, 566, 567, 568, 569, 570, 571, 572, 573, 574, 575, 576, 577, 578, 579, 580, 581, 582, 583, 584, 585, 586, 587, 588, 589, 590, 591, 592, 593] (by decide +kernel) (by decide +kernel)
set_option maxRecDepth 20000 in
theorem gL_law_X5_size : GoodIn wsL_law (wsV RL 28 RX5 yX5_size wsX5_size) := goodIn_app (goodIn_of _ (by decide +kernel)) ggL_law_X5_size
set_option maxRecDepth 20000 in
theorem ggL_law_X4_at : GoodIn wsL_law wsX4_at := goodIn_r _ [176, 14, 133, 134, 2, 135, 177, 178, 179, 18, 180, 140, 39, 559, 560, 561, 562, 563, 564, 565, 594, 595] (by decide +kernel) (by decide +kernel)
set_option maxRecDepth 20000 in
theorem gL_law_X4_at : GoodIn wsL_law (wsV RL 29 RX4 yX4_at wsX4_at) := goodIn_app (goodIn_of _ (by decide +kernel)) ggL_law_X4_at
set_option maxRecDepth 20000 in
theorem ggL_law_X5_at : GoodIn wsL_law wsX5_at := goodIn_r _ [184, 94, 93, 150, 151, 5, 152, 566, 567, 568, 569, 570, 571, 572, 573, 574, 575, 576, 577, 578, 579, 580, 581, 582, 583, 584, 585, 586, 587, 588, 589, 590, 591, 592, 593] (by decide +kernel) (by decide +kernel)
set_option maxRecDepth 20000 in
theorem gL_law_X5_at : GoodIn wsL_law (wsV RL 33 RX5 yX5_at wsX5_at) := goodIn_app (goodIn_of _ (by decide +kernel)) ggL_law_X5_at
set_option maxRecDepth 20000 in
theorem ggL_law_X4_begin : GoodIn wsL_law wsX4_begin := goodIn_r _ [188, 16, 189, 14, 29, 190, 191, 2, 192, 193, 62, 63, 22, 64, 48, 65, 66, 67, 68, 69, 70, 71, 72, 73, 74, 75, 76, 77, 50, 78, 79, 80, 81, 82, 51, 83, 133, 134, 135, 194, 195, 196, 18, 197, 198, 199, 200, 201, 202, 178, 179, 180, 140, 39, 203, 204, 205, 206, 23, 207, 208, 209, 210, 211, 212, 213, 214, 215, 216, 217, 218, 219, 47, 49, 220, 221, 222, 223, 224, 225, 226, 46, 227, 56, 57, 228, 229, 230, 231, 232, 233, 234, 59, 58, 235, 236, 237, 238, 239, 240, 241, 242, 243, 244, 245, 246, 247, 60, 248, 249, 250, 251, 252, 253, 254, 255, 256, 257, 258, 259, 260, 261, 262, 263, 264, 265, 266, 267, 268, 269, 270, 271, 559, 560, 561, 562, 563, 564, 565, 594, 595, 596, 597, 598, 599, 600, 601, 602, 603, 604, 605, 606, 607, 608, 612, 613, 614, 615, 616, 617, 618, 619] (by decide +kernel) (by decide +kernel)
set_option maxRecDepth 20000 in
theorem gL_law_X4_begin : GoodIn wsL_law (wsV RL 34 RX4 yX4_begin wsX4_begin) := goodIn_app (goodIn_of _ (by decide +kernel)) ggL_law_X4_begin
set_option maxRecDepth 20000 in
theorem ggL_law_X5_begin : GoodIn wsL_law wsX5_begin := goodIn_r _ [275, 94, 97, 101, 98, 99, 93, 276, 277, 108, 278, 279, 5, 280, 150, 151, 152, 125, 126, 127, 128, 104, 281, 282, 283, 284, 285, 286, 287, 105, 288, 289, 290, 291, 106, 292, 293, 107, 294, 295, 296, 297, 298, 299, 300, 301, 109, 110, 111, 302, 303, 304, 305, 306, 307, 308, 566, 567, 568, 569, 570, 571, 572, 573, 574, 575, 576, 577, 578, 579, 580, 581, 582, 583, 584, 585, 586, 587, 588, 589, 590, 591, 592, 593] (by decide +kernel) (by decide +kernel)
set_option maxRecDepth 20000 in
theorem gL_law_X5_begin : GoodIn wsL_law (wsV RL 38 RX5 yX5_begin wsX5_begin) := goodIn_app (goodIn_of _ (by decide +kernel)) ggL_law_X5_begin
set_option maxRecDepth 20000 in
theorem ggL_law_X4_take : GoodIn wsL_law wsX4_take := goodIn_r _ [312, 14, 313, 16, 190, 191, 2, 192, 133, 134, 135, 207, 208, 209, 22, 210, 211, 178, 179, 18, 180, 140, 39, 212, 213, 214, 215, 83, 78, 51, 68, 216, 217, 218, 219, 47, 69, 70, 49, 48, 66, 220, 221, 222, 223, 50, 67, 224, 225, 226, 46, 227, 56, 57, 228, 229, 230, 231, 232, 233, 234, 59, 58, 235, 236, 237, 238, 239, 240, 241, 242, 243, 244, 245, 246, 247, 60, 248, 249, 250, 251, 252, 253, 254, 255, 256, 257, 74, 75, 76, 77, 71, 72, 73, 79, 80, 81, 82, 258, 259, 260, 261, 559, 560, 561, 562, 563, 564, 565, 594, 595, 596, 597, 598, 599, 600, 601, 602, 603, 604, 605, 606, 607, 608, 612, 613, 614, 615, 616, 617, 618, 619] (by decide +kernel) (by decide +kernel)
set_option maxRecDepth 20000 in
theorem gL_law_X4_take : GoodIn wsL_law (wsV RL 39 RX4 yX4_take wsX4_take) := goodIn_app (goodIn_of _ (by decide +kernel)) ggL_law_X4_take
set_option maxRecDepth 20000 in
theorem ggL_law_X5_take : GoodIn wsL_law wsX5_take := goodIn_r _ [317, 97, 94, 318, 96, 93, 278, 279, 5, 280, 150, 151, 152, 566, 567, 568, 569, 570, 571, 572, 573, 574, 575, 576, 577, 578, 579, 580, 581, 582, 583, 584, 585, 586, 587, 588, 589, 590, 591, 592, 593] (by decide +kernel) (by decide +kernel)
set_option maxRecDepth 20000 in
theorem gL_law_X5_take : GoodIn wsL_law (wsV RL 42 RX5 yX5_take wsX5_take) := goodIn_app (goodIn_of _ (by decide +kernel)) ggL_law_X5_take
set_option maxRecDepth 20000 in
theorem ggL_law_X4_fill : GoodIn wsL_law wsX4_fill := goodIn_r _ [322, 313, 16, 190, 191, 2, 192, 323, 213, 214, 22, 215, 83, 78, 51, 68, 216, 217, 218, 219, 47, 69, 70, 49, 48, 66, 220, 221, 222, 223, 50, 67, 224, 225, 226, 46, 227, 56, 57, 228, 229, 230, 231, 232, 233, 234, 59, 58, 235, 236, 237, 238, 239, 240, 241, 242, 243, 244, 245, 246, 247, 60, 248, 249, 250, 251, 252, 253, 254, 255, 256, 257, 74, 75, 76, 77, 71, 72, 73, 79, 80, 81, 82, 258, 259, 260, 261, 559, 560, 561, 562, 563, 564, 565, 596, 597, 598, 599, 600, 601, 602, 603, 604, 605, 606, 607, 608, 612, 613, 614, 615, 616, 617, 618, 619] (by decide +kernel) (by decide +kernel)
set_option maxRecDepth 20000 in
theorem gL_law_X4_fill : GoodIn wsL_law (wsV RL 43 RX4 yX4_fill wsX4_fill) := goodIn_app (goodIn_of _ (by decide +kernel)) ggL_law_X4_fill
set_option maxRecDepth 20000 in
theorem ggL_law_X5_fill : GoodIn wsL_law wsX5_fill := goodIn_r _ [327, 97, 318, 96, 278, 279, 5, 280, 566, 567, 568, 569, 570, 571, 572, 573, 574, 575, 576, 577, 578, 579, 580, 581, 582, 583, 584, 585, 586, 587, 588, 589, 590, 591, 592, 593] (by decide +kernel) (by decide +kernel)
set_option maxRecDepth 20000 in
theorem gL_law_X5_fill : GoodIn wsL_law (wsV RL 47 RX5 yX5_fill wsX5_fill) := goodIn_app (goodIn_of _ (by decide +kernel)) ggL_law_X5_fill
set_option maxRecDepth 20000 in
theorem ggL_law_X4_output : GoodIn wsL_law wsX4_output := goodIn_r _ [331, 332, 16, 14, 190, 191, 2, 192, 133, 134, 135, 262, 263, 264, 22, 265, 70, 47, 49, 48, 66, 220, 221, 222, 223, 78, 50, 51, 67, 69, 83, 224, 225, 226, 46, 227, 56, 57, 228, 229, 230, 231, 232, 233, 234, 59, 58, 235, 236, 237, 238, 239, 240, 241, 242, 243, 244, 245, 246, 247, 60, 248, 249, 250, 251, 252, 253, 333, 334, 335, 336, 337, 338, 158, 159, 18, 160, 140, 339, 267, 268, 269, 340, 341, 342, 343, 344, 345, 142, 143, 144, 39, 559, 560, 561, 562, 563, 564, 565, 596, 597, 598, 599, 600, 601, 602, 603, 604, 605, 606, 607, 608, 612, 613, 614, 615, 616, 617, 618, 619, 594, 595] (by decide +kernel) (by decide +kernel)
set_option maxRecDepth 20000 in
theorem gL_law_X4_output : GoodIn wsL_law (wsV RL 48 RX4 yX4_output wsX4_output) := goodIn_app (goodIn_of _ (by decide +kernel)) ggL_law_X4_output
set_option maxRecDepth 20000 in
theorem ggL_law_X5_output : GoodIn wsL_law wsX5_output := goodIn_r _ [349, 350, 351, 352, 277, 108, 93, 353, 94, 278, 279, 5, 280, 150, 151, 152, 354, 355, 356, 357, 358, 359, 360, 96, 318, 97, 361, 362, 363, 364, 365, 101, 100, 106, 284, 285, 286, 287, 105, 104, 99, 98, 276, 366, 367, 368, 369, 288, 289, 290, 291, 292, 293, 107, 294, 295, 296, 297, 298, 299, 300, 301, 109, 110, 111, 302, 303, 304, 305, 306, 307, 308, 370, 371, 372, 373, 374, 375, 376, 377, 378, 112, 379, 380, 381, 382, 566, 567, 568, 569, 570, 571, 572, 573, 574, 575, 576, 577, 578, 579, 580, 581, 582, 583, 584, 585, 586, 587, 588, 589, 590, 591, 592, 593] (by decide +kernel) (by decide +kernel)
set_option maxRecDepth 20000 in
theorem gL_law_X5_output : GoodIn wsL_law (wsV RL 52 RX5 yX5_output wsX5_output) := goodIn_app (goodIn_of _ (by decide +kernel)) ggL_law_X5_output
set_option maxRecDepth 20000 in
theorem ggL_law_X4_copy : GoodIn wsL_law wsX4_copy := goodIn_r _ [386, 16, 190, 191, 2, 192, 387, 388, 389, 22, 390, 48, 49, 50, 51, 65, 66, 67, 68, 69, 70, 78, 83, 71, 72, 73, 559, 560, 561, 562, 563, 564, 565, 596, 597, 598, 599, 600, 601, 602, 603, 604, 605, 606, 607, 608] (by decide +kernel) (by decide +kernel)
set_option maxRecDepth 20000 in
theorem gL_law_X4_copy : GoodIn wsL_law (wsV RL 53 RX4 yX4_copy wsX4_copy) := goodIn_app (goodIn_of _ (by decide +kernel)) ggL_law_X4_copy
set_option maxRecDepth 20000 in
theorem ggL_law_X5_copy : GoodIn wsL_law wsX5_copy := goodIn_r _ [394, 97, 96, 318, 99, 100, 98, 101, 278, 279, 5, 280, 566, 567, 568, 569, 570, 571, 572, 573, 574, 575, 576, 577, 578, 579, 580, 581, 582, 583, 584, 585, 586, 587, 588, 589, 590, 591, 592, 593] (by decide +kernel) (by decide +kernel)
set_option maxRecDepth 20000 in
theorem gL_law_X5_copy : GoodIn wsL_law (wsV RL 56 RX5 yX5_copy wsX5_copy) := goodIn_app (goodIn_of _ (by decide +kernel)) ggL_law_X5_copy
set_option maxRecDepth 20000 in
theorem ggL_law_X4_told : GoodIn wsL_law wsX4_told := goodIn_r _ [398, 16, 190, 191, 2, 192, 399, 400, 401, 22, 402, 78, 83, 559, 560, 561, 562, 563, 564, 565, 596, 597, 598, 599, 600, 601, 602, 603, 604, 605, 606, 607, 608] (by decide +kernel) (by decide +kernel)
set_option maxRecDepth 20000 in
theorem gL_law_X4_told : GoodIn wsL_law (wsV RL 57 RX4 yX4_told wsX4_told) := goodIn_app (goodIn_of _ (by decide +kernel)) ggL_law_X4_told
set_option maxRecDepth 20000 in
theorem ggL_law_X5_told : GoodIn wsL_law wsX5_told := goodIn_r _ [406, 98, 97, 278, 279, 5, 280, 366, 367, 368, 369, 566, 567, 568, 569, 570, 571, 572, 573, 574, 575, 576, 577, 578, 579, 580, 581, 582, 583, 584, 585, 586, 587, 588, 589, 590, 591, 592, 593] (by decide +kernel) (by decide +kernel)
set_option maxRecDepth 20000 in
theorem gL_law_X5_told : GoodIn wsL_law (wsV RL 60 RX5 yX5_told wsX5_told) := goodIn_app (goodIn_of _ (by decide +kernel)) ggL_law_X5_told
set_option maxRecDepth 20000 in
theorem ggL_law_X4_chain : GoodIn wsL_law wsX4_chain := goodIn_r _ [410, 16, 190, 191, 2, 192, 411, 412, 413, 22, 414, 70, 49, 559, 560, 561, 562, 563, 564, 565, 596, 597, 598, 599, 600, 601, 602, 603, 604, 605, 606, 607, 608] (by decide +kernel) (by decide +kernel)
set_option maxRecDepth 20000 in
theorem gL_law_X4_chain : GoodIn wsL_law (wsV RL 61 RX4 yX4_chain wsX4_chain) := goodIn_app (goodIn_of _ (by decide +kernel)) ggL_law_X4_chain
set_option maxRecDepth 20000 in
theorem ggL_law_X5_chain : GoodIn wsL_law wsX5_chain := goodIn_r _ [418, 361, 112, 278, 279, 5, 280, 362, 363, 364, 365, 101, 96, 318, 100, 106, 284, 285, 286, 287, 105, 104, 99, 98, 276, 366, 367, 368, 369, 97, 288, 289, 290, 291, 292, 293, 107, 277, 294, 295, 296, 297, 108, 298, 299, 300, 301, 109, 110, 111, 302, 303, 304, 305, 306, 307, 308, 370, 371, 372, 373, 374, 375, 376, 377, 378, 379, 380, 381, 382, 566, 567, 568, 569, 570, 571, 572, 573, 574, 575, 576, 577, 578, 579, 580, 581, 582, 583, 584, 585, 586, 587, 588, 589, 590, 591, 592, 593] (by decide +kernel) (by decide +kernel)
set_option maxRecDepth 20000 in
theorem gL_law_X5_chain : GoodIn wsL_law (wsV RL 64 RX5 yX5_chain wsX5_chain) := goodIn_app (goodIn_of _ (by decide +kernel)) ggL_law_X5_chain
set_option maxRecDepth 20000 in
theorem ggL_law_X4_grow : GoodIn wsL_law wsX4_grow := goodIn_r _ [422, 19, 136, 137, 138, 18, 139, 39, 140, 141, 142, 143, 144, 559, 560, 561, 562, 563, 564, 565, 594, 595] (by decide +kernel) (by decide +kernel)
set_option maxRecDepth 20000 in
theorem gL_law_X4_grow : GoodIn wsL_law (wsV RL 65 RX4 yX4_grow wsX4_grow) := goodIn_app (goodIn_of _ (by decide +kernel)) ggL_law_X4_grow
set_option maxRecDepth 20000 in
theorem ggL_law_X5_grow : GoodIn wsL_law wsX5_grow := goodIn_r _ [426, 427, 102, 566, 567, 568, 569, 570, 571, 572, 573, 574, 575, 576, 577, 578, 579, 580, 581, 582, 583, 584, 585, 586, 587, 588, 589, 590, 591, 592, 593] (by decide +kernel) (by decide +kernel)
set_option maxRecDepth 20000 in
theorem gL_law_X5_grow : GoodIn wsL_law (wsV RL 68 RX5 yX5_grow wsX5_grow) := goodIn_app (goodIn_of _ (by decide +kernel)) ggL_law_X5_grow
set_option maxRecDepth 20000 in
theorem ggL_law_X4_spoil : GoodIn wsL_law wsX4_spoil := goodIn_r _ [431, 19, 432, 433, 434, 18, 435, 140, 39, 559, 560, 561, 562, 563, 564, 565, 594, 595] (by decide +kernel) (by decide +kernel)
set_option maxRecDepth 20000 in
theorem gL_law_X4_spoil : GoodIn wsL_law (wsV RL 69 RX4 yX4_spoil wsX4_spoil) := goodIn_app (goodIn_of _ (by decide +kernel)) ggL_law_X4_spoil
set_option maxRecDepth 20000 in
theorem ggL_law_X5_spoil : GoodIn wsL_law wsX5_spoil := goodIn_r _ [439, 427, 102, 566, 567, 568, 569, 570, 571, 572, 573, 574, 575, 576, 577, 578, 579, 580, 581, 582, 583, 584, 585, 586, 587, 588, 589, 590, 591, 592, 593] (by decide +kernel) (by decide +kernel)
set_option maxRecDepth 20000 in
theorem gL_law_X5_spoil : GoodIn wsL_law (wsV RL 72 RX5 yX5_spoil wsX5_spoil) := goodIn_app (goodIn_of _ (by decide +kernel)) ggL_law_X5_spoil
set_option maxRecDepth 20000 in
theorem ggL_law_X4_shorten : GoodIn wsL_law wsX4_shorten := goodIn_r _ [443, 19, 157, 158, 159, 18, 160, 140, 559, 560, 561, 562, 563, 564, 565, 594, 595] (by decide +kernel) (by decide +kernel)
set_option maxRecDepth 20000 in
theorem gL_law_X4_shorten : GoodIn wsL_law (wsV RL 73 RX4 yX4_shorten wsX4_shorten) := goodIn_app (goodIn_of _ (by decide +kernel)) ggL_law_X4_shorten
set_option maxRecDepth 20000 in
theorem ggL_law_X5_shorten : GoodIn wsL_law wsX5_shorten := goodIn_r _ [447, 427, 566, 567, 568, 569, 570, 571, 572, 573, 574, 575, 576, 577, 578, 579, 580, 581, 582, 583, 584, 585, 586, 587, 588, 589, 590, 591, 592, 593] (by decide +kernel) (by decide +kernel)
set_option maxRecDepth 20000 in
theorem gL_law_X5_shorten : GoodIn wsL_law (wsV RL 76 RX5 yX5_shorten wsX5_shorten) := goodIn_app (goodIn_of _ (by decide +kernel)) ggL_law_X5_shorten
set_option maxRecDepth 20000 in
theorem ggL_law_X4_root : GoodIn wsL_law wsX4_root := goodIn_r _ [451, 19, 23, 14, 133, 134, 2, 135, 452, 453, 454, 455, 189, 193, 62, 63, 22, 64, 48, 65, 66, 67, 68, 69, 70, 71, 72, 73, 74, 75, 76, 77, 50, 78, 79, 80, 81, 82, 51, 83, 207, 208, 209, 210, 211, 178, 179, 18, 180, 140, 39, 212, 213, 214, 215, 216, 217, 218, 219, 47, 49, 220, 221, 222, 223, 224, 225, 226, 46, 227, 56, 57, 228, 229, 230, 231, 232, 233, 234, 59, 58, 235, 236, 237, 238, 239, 240, 241, 242, 243, 244, 245, 246, 247, 60, 248, 249, 250, 251, 252, 253, 254, 255, 256, 257, 258, 259, 260, 261, 262, 263, 264, 265, 333, 334, 335, 336, 337, 338, 158, 159, 160, 339, 267, 268, 269, 340, 341, 342, 343, 344, 345, 142, 143, 144, 559, 560, 561, 562, 563, 564, 565, 594, 595, 596, 597, 598, 599, 600, 601, 602, 603, 604, 605, 606, 607, 608, 612, 613, 614, 615, 616, 617, 618, 619] (by decide +kernel) (by decide +kernel)
set_option maxRecDepth 20000 in
theorem gL_law_X4_root : GoodIn wsL_law (wsV RL 77 RX4 yX4_root wsX4_root) := goodIn_app (goodIn_of _ (by decide +kernel)) ggL_law_X4_root
set_option maxRecDepth 20000 in
theorem ggL_law_X5_root : GoodIn wsL_law wsX5_root := goodIn_r _ [459, 102, 427, 277, 93, 108, 94, 150, 151, 5, 152, 284, 285, 286, 287, 105, 104, 99, 98, 276, 460, 461, 462, 463, 464, 465, 466, 361, 370, 371, 372, 373, 374, 467, 468, 469, 288, 289, 290, 291, 106, 292, 293, 107, 294, 295, 296, 297, 298, 299, 300, 301, 109, 110, 111, 302, 303, 304, 305, 306, 307, 308, 375, 376, 377, 378, 112, 379, 380, 381, 382, 566, 567, 568, 569, 570, 571, 572, 573, 574, 575, 576, 577, 578, 579, 580, 581, 582, 583, 584, 585, 586, 587, 588, 589, 590, 591, 592, 593] (by decide +kernel) (by decide +kernel)
set_option maxRecDepth 20000 in
theorem gL_law_X5_root : GoodIn wsL_law (wsV RL 80 RX5 yX5_root wsX5_root) := goodIn_app (goodIn_of _ (by decide +kernel)) ggL_law_X5_root
set_option maxRecDepth 20000 in
theorem ggL_law_X4_prove : GoodIn wsL_law wsX4_prove := goodIn_r _ [473, 19, 20, 27, 474, 475, 36, 476, 23, 29, 477, 478, 2, 479, 480, 481, 482, 157, 158, 159, 18, 160, 140, 483, 484, 485, 486, 487, 488, 489, 202, 178, 179, 180, 39, 490, 142, 143, 144, 491, 492, 493, 26, 494, 495, 87, 88, 496, 497, 498, 452, 453, 454, 455, 189, 193, 62, 63, 22, 64, 48, 65, 66, 67, 68, 69, 70, 71, 72, 73, 74, 75, 76, 77, 50, 78, 79, 80, 81, 82, 51, 83, 207, 208, 209, 210, 211, 212, 213, 214, 215, 216, 217, 218, 219, 47, 49, 220, 221, 222, 223, 224, 225, 226, 46, 227, 56, 57, 228, 229, 230, 231, 232, 233, 234, 59, 58, 235, 236, 237, 238, 239, 240, 241, 242, 243, 244, 245, 246, 247, 60, 248, 249, 250, 251, 252, 253, 254, 255, 256, 257, 258, 259, 260, 261, 262, 263, 264, 265, 270, 271, 499, 500, 501, 502, 559, 560, 561, 562, 563, 564, 565, 594, 595, 609, 610, 611, 596, 597, 598, 599, 600, 601, 602, 603, 604, 605, 606, 607, 608, 612, 613, 614, 615, 616, 617, 618, 619] (by decide +kernel) (by decide +kernel)
set_option maxRecDepth 20000 in
theorem gL_law_X4_prove : GoodIn wsL_law (wsV RL 81 RX4 yX4_prove wsX4_prove) := goodIn_app (goodIn_of _ (by decide +kernel)) ggL_law_X4_prove
set_option maxRecDepth 20000 in
theorem ggL_law_X5_prove : GoodIn wsL_law wsX5_prove := goodIn_r _ [506, 427, 507, 103, 102, 106, 460, 461, 5, 462, 284, 285, 286, 287, 105, 104, 99, 98, 276, 467, 468, 469, 508, 509, 510, 463, 464, 465, 466, 361, 370, 371, 372, 373, 374, 288, 289, 290, 291, 292, 293, 107, 277, 294, 295, 296, 297, 108, 298, 299, 300, 301, 109, 110, 111, 302, 303, 304, 305, 306, 307, 308, 375, 376, 377, 378, 112, 379, 380, 381, 382, 566, 567, 568, 569, 570, 571, 572, 573, 574, 575, 576, 577, 578, 579, 580, 581, 582, 583, 584, 585, 586, 587, 588, 589, 590, 591, 592, 593] (by decide +kernel) (by decide +kernel)
set_option maxRecDepth 20000 in
theorem gL_law_X5_prove : GoodIn wsL_law (wsV RL 84 RX5 yX5_prove wsX5_prove) := goodIn_app (goodIn_of _ (by decide +kernel)) ggL_law_X5_prove
set_option maxRecDepth 20000 in
theorem ggL_law_X4_proof : GoodIn wsL_law wsX4_proof := goodIn_r _ [514, 20, 177, 178, 179, 18, 180, 140, 39, 559, 560, 561, 562, 563, 564, 565, 594, 595] (by decide +kernel) (by decide +kernel)
set_option maxRecDepth 20000 in
theorem gL_law_X4_proof : GoodIn wsL_law (wsV RL 85 RX4 yX4_proof wsX4_proof) := goodIn_app (goodIn_of _ (by decide +kernel)) ggL_law_X4_proof
set_option maxRecDepth 20000 in
theorem ggL_law_X5_proof : GoodIn wsL_law wsX5_proof := goodIn_r _ [518, 507, 103, 566, 567, 568, 569, 570, 571, 572, 573, 574, 575, 576, 577, 578, 579, 580, 581, 582, 583, 584, 585, 586, 587, 588, 589, 590, 591, 592, 593] (by decide +kernel) (by decide +kernel)
set_option maxRecDepth 20000 in
theorem gL_law_X5_proof : GoodIn wsL_law (wsV RL 88 RX5 yX5_proof wsX5_proof) := goodIn_app (goodIn_of _ (by decide +kernel)) ggL_law_X5_proof
set_option maxRecDepth 20000 in
theorem ggL_law_X4_forge : GoodIn wsL_law wsX4_forge := goodIn_r _ [522, 20, 432, 433, 434, 18, 435, 140, 39, 559, 560, 561, 562, 563, 564, 565, 594, 595] (by decide +kernel) (by decide +kernel)
set_option maxRecDepth 20000 in
theorem gL_law_X4_forge : GoodIn wsL_law (wsV RL 89 RX4 yX4_forge wsX4_forge) := goodIn_app (goodIn_of _ (by decide +kernel)) ggL_law_X4_forge
set_option maxRecDepth 20000 in
theorem ggL_law_X5_forge : GoodIn wsL_law wsX5_forge := goodIn_r _ [526, 507, 103, 566, 567, 568, 569, 570, 571, 572, 573, 574, 575, 576, 577, 578, 579, 580, 581, 582, 583, 584, 585, 586, 587, 588, 589, 590, 591, 592, 593] (by decide +kernel) (by decide +kernel)
set_option maxRecDepth 20000 in
theorem gL_law_X5_forge : GoodIn wsL_law (wsV RL 92 RX5 yX5_forge wsX5_forge) := goodIn_app (goodIn_of _ (by decide +kernel)) ggL_law_X5_forge
set_option maxRecDepth 20000 in
theorem ggL_law_X4_cut : GoodIn wsL_law wsX4_cut := goodIn_r _ [530, 20, 157, 158, 159, 18, 160, 140, 559, 560, 561, 562, 563, 564, 565, 594, 595] (by decide +kernel) (by decide +kernel)
set_option maxRecDepth 20000 in
theorem gL_law_X4_cut : GoodIn wsL_law (wsV RL 93 RX4 yX4_cut wsX4_cut) := goodIn_app (goodIn_of _ (by decide +kernel)) ggL_law_X4_cut
set_option maxRecDepth 20000 in
theorem ggL_law_X5_cut : GoodIn wsL_law wsX5_cut := goodIn_r _ [534, 507, 566, 567, 568, 569, 570, 571, 572, 573, 574, 575, 576, 577, 578, 579, 580, 581, 582, 583, 584, 585, 586, 587, 588, 589, 590, 591, 592, 593] (by decide +kernel) (by decide +kernel)
set_option maxRecDepth 20000 in
theorem gL_law_X5_cut : GoodIn wsL_law (wsV RL 96 RX5 yX5_cut wsX5_cut) := goodIn_app (goodIn_of _ (by decide +kernel)) ggL_law_X5_cut
set_option maxRecDepth 20000 in
theorem ggL_law_X4_check : GoodIn wsL_law wsX4_check := goodIn_r _ [538, 14, 539, 27, 20, 23, 133, 134, 2, 135, 477, 478, 479, 480, 481, 482, 491, 492, 493, 26, 494, 495, 87, 88, 496, 497, 498, 483, 484, 485, 474, 475, 36, 476, 452, 453, 454, 455, 189, 193, 62, 63, 22, 64, 48, 65, 66, 67, 68, 69, 70, 71, 72, 73, 74, 75, 76, 77, 50, 78, 79, 80, 81, 82, 51, 83, 207, 208, 209, 210, 211, 178, 179, 18, 180, 140, 39, 212, 213, 214, 215, 216, 217, 218, 219, 47, 49, 220, 221, 222, 223, 224, 225, 226, 46, 227, 56, 57, 228, 229, 230, 231, 232, 233, 234, 59, 58, 235, 236, 237, 238, 239, 240, 241, 242, 243, 244, 245, 246, 247, 60, 248, 249, 250, 251, 252, 253, 254, 255, 256, 257, 258, 259, 260, 261, 262, 263, 264, 265, 540, 541, 542, 543, 29, 194, 195, 196, 197, 198, 199, 200, 201, 202, 270, 544, 545, 546, 547, 548, 549, 550, 551, 552, 339, 267, 268, 269, 340, 341, 342, 343, 344, 553, 559, 560, 561, 562, 563, 564, 565, 594, 595, 609, 610, 611, 596, 597, 598, 599, 600, 601, 602, 603, 604, 605, 606, 607, 608, 612, 613, 614, 615, 616, 617, 618, 619] (by decide +kernel) (by decide +kernel)
set_option maxRecDepth 20000 in
theorem gL_law_X4_check : GoodIn wsL_law (wsV RL 97 RX4 yX4_check wsX4_check) := goodIn_app (goodIn_of _ (by decide +kernel)) ggL_law_X4_check
set_option maxRecDepth 20000 in
theorem ggL_law_X5_check : GoodIn wsL_law wsX5_check := goodIn_r _ [557, 558, 94, 114, 507, 103, 107, 106, 105, 292, 293, 276, 277, 93, 108, 150, 151, 5, 152, 460, 461, 462, 508, 509, 510, 467, 468, 469, 284, 285, 286, 287, 104, 99, 98, 288, 289, 290, 291, 294, 295, 296, 297, 298, 299, 300, 301, 109, 110, 111, 302, 303, 304, 305, 306, 307, 308, 281, 282, 283, 566, 567, 568, 569, 570, 571, 572, 573, 574, 575, 576, 577, 578, 579, 580, 581, 582, 583, 584, 585, 586, 587, 588, 589, 590, 591, 592, 593] (by decide +kernel) (by decide +kernel)
set_option maxRecDepth 20000 in
theorem gL_law_X5_check : GoodIn wsL_law (wsV RL 100 RX5 yX5_check wsX5_check) := goodIn_app (goodIn_of _ (by decide +kernel)) ggL_law_X5_check
theorem dL_law_0 : decode cL_law 0 = .ok (.new 7, 3) := by decide +kernel
theorem dL_law_3 : decode cL_law 3 = .ok (.dup, 1) := by decide +kernel
theorem dL_law_4 : decode cL_law 4 = .ok (.invokespecial 9, 3) := by decide +kernel
theorem dL_law_7 : decode cL_law 7 = .ok (.astore_n 1, 1) := by decide +kernel
theorem dL_law_8 : decode cL_law 8 = .ok (.new 10, 3) := by decide +kernel
theorem dL_law_11 : decode cL_law 11 = .ok (.dup, 1) := by decide +kernel
theorem dL_law_12 : decode cL_law 12 = .ok (.invokespecial 12, 3) := by decide +kernel
theorem dL_law_15 : decode cL_law 15 = .ok (.astore_n 2, 1) := by decide +kernel
theorem dL_law_16 : decode cL_law 16 = .ok (.iconst 0, 1) := by decide +kernel
theorem dL_law_17 : decode cL_law 17 = .ok (.istore_n 3, 1) := by decide +kernel
theorem dL_law_18 : decode cL_law 18 = .ok (.iload_n 3, 1) := by decide +kernel
theorem dL_law_19 : decode cL_law 19 = .ok (.aload_n 0, 1) := by decide +kernel
theorem dL_law_20 : decode cL_law 20 = .ok (.arraylength, 1) := by decide +kernel
theorem dL_law_21 : decode cL_law 21 = .ok (.bipush 6, 2) := by decide +kernel
theorem dL_law_23 : decode cL_law 23 = .ok (.isub, 1) := by decide +kernel
theorem dL_law_24 : decode cL_law 24 = .ok (.if_icmp .gt 850, 3) := by decide +kernel
theorem dL_law_27 : decode cL_law 27 = .ok (.aload_n 0, 1) := by decide +kernel
theorem dL_law_28 : decode cL_law 28 = .ok (.iload_n 3, 1) := by decide +kernel
theorem dL_law_29 : decode cL_law 29 = .ok (.iaload, 1) := by decide +kernel
theorem dL_law_30 : decode cL_law 30 = .ok (.bipush 31, 2) := by decide +kernel
theorem dL_law_32 : decode cL_law 32 = .ok (.iand, 1) := by decide +kernel
theorem dL_law_33 : decode cL_law 33 = .ok (.tableswitch 835 0 19 #[95, 168, 191, 214, 247, 290, 323, 376, 459, 492, 525, 568, 611, 644, 667, 690, 713, 736, 769, 792], 95) := by decide +kernel
theorem dL_law_128 : decode cL_law 128 = .ok (.aload_n 1, 1) := by decide +kernel
theorem dL_law_129 : decode cL_law 129 = .ok (.aload_n 0, 1) := by decide +kernel
theorem dL_law_130 : decode cL_law 130 = .ok (.iload_n 3, 1) := by decide +kernel
theorem dL_law_131 : decode cL_law 131 = .ok (.iconst 1, 1) := by decide +kernel
theorem dL_law_132 : decode cL_law 132 = .ok (.iadd, 1) := by decide +kernel
theorem dL_law_133 : decode cL_law 133 = .ok (.iaload, 1) := by decide +kernel
theorem dL_law_134 : decode cL_law 134 = .ok (.aload_n 0, 1) := by decide +kernel
theorem dL_law_135 : decode cL_law 135 = .ok (.iload_n 3, 1) := by decide +kernel
theorem dL_law_136 : decode cL_law 136 = .ok (.iconst 2, 1) := by decide +kernel
theorem dL_law_137 : decode cL_law 137 = .ok (.iadd, 1) := by decide +kernel
theorem dL_law_138 : decode cL_law 138 = .ok (.iaload, 1) := by decide +kernel
theorem dL_law_139 : decode cL_law 139 = .ok (.aload_n 0, 1) := by decide +kernel
theorem dL_law_140 : decode cL_law 140 = .ok (.iload_n 3, 1) := by decide +kernel
theorem dL_law_141 : decode cL_law 141 = .ok (.iconst 3, 1) := by decide +kernel
theorem dL_law_142 : decode cL_law 142 = .ok (.iadd, 1) := by decide +kernel
theorem dL_law_143 : decode cL_law 143 = .ok (.iaload, 1) := by decide +kernel
theorem dL_law_144 : decode cL_law 144 = .ok (.i2l, 1) := by decide +kernel
theorem dL_law_145 : decode cL_law 145 = .ok (.bipush 32, 2) := by decide +kernel
theorem dL_law_147 : decode cL_law 147 = .ok (.lshl, 1) := by decide +kernel
theorem dL_law_148 : decode cL_law 148 = .ok (.aload_n 0, 1) := by decide +kernel
theorem dL_law_149 : decode cL_law 149 = .ok (.iload_n 3, 1) := by decide +kernel
theorem dL_law_150 : decode cL_law 150 = .ok (.iconst 4, 1) := by decide +kernel
theorem dL_law_151 : decode cL_law 151 = .ok (.iadd, 1) := by decide +kernel
theorem dL_law_152 : decode cL_law 152 = .ok (.iaload, 1) := by decide +kernel
theorem dL_law_153 : decode cL_law 153 = .ok (.i2l, 1) := by decide +kernel
theorem dL_law_154 : decode cL_law 154 = .ok (.ldc2_w 13, 3) := by decide +kernel
theorem dL_law_157 : decode cL_law 157 = .ok (.land, 1) := by decide +kernel
theorem dL_law_158 : decode cL_law 158 = .ok (.lor, 1) := by decide +kernel
theorem dL_law_159 : decode cL_law 159 = .ok (.invokevirtual 15, 3) := by decide +kernel
theorem dL_law_162 : decode cL_law 162 = .ok (.aload_n 2, 1) := by decide +kernel
theorem dL_law_163 : decode cL_law 163 = .ok (.aload_n 0, 1) := by decide +kernel
theorem dL_law_164 : decode cL_law 164 = .ok (.iload_n 3, 1) := by decide +kernel
theorem dL_law_165 : decode cL_law 165 = .ok (.iconst 1, 1) := by decide +kernel
theorem dL_law_166 : decode cL_law 166 = .ok (.iadd, 1) := by decide +kernel
theorem dL_law_167 : decode cL_law 167 = .ok (.iaload, 1) := by decide +kernel
theorem dL_law_168 : decode cL_law 168 = .ok (.aload_n 0, 1) := by decide +kernel
theorem dL_law_169 : decode cL_law 169 = .ok (.iload_n 3, 1) := by decide +kernel
theorem dL_law_170 : decode cL_law 170 = .ok (.iconst 2, 1) := by decide +kernel
theorem dL_law_171 : decode cL_law 171 = .ok (.iadd, 1) := by decide +kernel
theorem dL_law_172 : decode cL_law 172 = .ok (.iaload, 1) := by decide +kernel
theorem dL_law_173 : decode cL_law 173 = .ok (.aload_n 0, 1) := by decide +kernel
theorem dL_law_174 : decode cL_law 174 = .ok (.iload_n 3, 1) := by decide +kernel
theorem dL_law_175 : decode cL_law 175 = .ok (.iconst 3, 1) := by decide +kernel
theorem dL_law_176 : decode cL_law 176 = .ok (.iadd, 1) := by decide +kernel
theorem dL_law_177 : decode cL_law 177 = .ok (.iaload, 1) := by decide +kernel
theorem dL_law_178 : decode cL_law 178 = .ok (.i2l, 1) := by decide +kernel
theorem dL_law_179 : decode cL_law 179 = .ok (.bipush 32, 2) := by decide +kernel
theorem dL_law_181 : decode cL_law 181 = .ok (.lshl, 1) := by decide +kernel
theorem dL_law_182 : decode cL_law 182 = .ok (.aload_n 0, 1) := by decide +kernel
theorem dL_law_183 : decode cL_law 183 = .ok (.iload_n 3, 1) := by decide +kernel
theorem dL_law_184 : decode cL_law 184 = .ok (.iconst 4, 1) := by decide +kernel
theorem dL_law_185 : decode cL_law 185 = .ok (.iadd, 1) := by decide +kernel
theorem dL_law_186 : decode cL_law 186 = .ok (.iaload, 1) := by decide +kernel
theorem dL_law_187 : decode cL_law 187 = .ok (.i2l, 1) := by decide +kernel
theorem dL_law_188 : decode cL_law 188 = .ok (.ldc2_w 13, 3) := by decide +kernel
theorem dL_law_191 : decode cL_law 191 = .ok (.land, 1) := by decide +kernel
theorem dL_law_192 : decode cL_law 192 = .ok (.lor, 1) := by decide +kernel
theorem dL_law_193 : decode cL_law 193 = .ok (.invokevirtual 19, 3) := by decide +kernel
theorem dL_law_196 : decode cL_law 196 = .ok (.if_icmp .eq 672, 3) := by decide +kernel
theorem dL_law_199 : decode cL_law 199 = .ok (.iconst 0, 1) := by decide +kernel
theorem dL_law_200 : decode cL_law 200 = .ok (.ireturn, 1) := by decide +kernel
theorem dL_law_201 : decode cL_law 201 = .ok (.aload_n 1, 1) := by decide +kernel
theorem dL_law_202 : decode cL_law 202 = .ok (.aload_n 0, 1) := by decide +kernel
theorem dL_law_203 : decode cL_law 203 = .ok (.iload_n 3, 1) := by decide +kernel
theorem dL_law_204 : decode cL_law 204 = .ok (.iconst 1, 1) := by decide +kernel
theorem dL_law_205 : decode cL_law 205 = .ok (.iadd, 1) := by decide +kernel
theorem dL_law_206 : decode cL_law 206 = .ok (.iaload, 1) := by decide +kernel
theorem dL_law_207 : decode cL_law 207 = .ok (.invokevirtual 20, 3) := by decide +kernel
theorem dL_law_210 : decode cL_law 210 = .ok (.aload_n 2, 1) := by decide +kernel
theorem dL_law_211 : decode cL_law 211 = .ok (.aload_n 0, 1) := by decide +kernel
theorem dL_law_212 : decode cL_law 212 = .ok (.iload_n 3, 1) := by decide +kernel
theorem dL_law_213 : decode cL_law 213 = .ok (.iconst 1, 1) := by decide +kernel
theorem dL_law_214 : decode cL_law 214 = .ok (.iadd, 1) := by decide +kernel
theorem dL_law_215 : decode cL_law 215 = .ok (.iaload, 1) := by decide +kernel
theorem dL_law_216 : decode cL_law 216 = .ok (.invokevirtual 24, 3) := by decide +kernel
theorem dL_law_219 : decode cL_law 219 = .ok (.if_icmp .eq 649, 3) := by decide +kernel
theorem dL_law_222 : decode cL_law 222 = .ok (.iconst 0, 1) := by decide +kernel
theorem dL_law_223 : decode cL_law 223 = .ok (.ireturn, 1) := by decide +kernel
theorem dL_law_224 : decode cL_law 224 = .ok (.aload_n 1, 1) := by decide +kernel
theorem dL_law_225 : decode cL_law 225 = .ok (.aload_n 0, 1) := by decide +kernel
theorem dL_law_226 : decode cL_law 226 = .ok (.iload_n 3, 1) := by decide +kernel
theorem dL_law_227 : decode cL_law 227 = .ok (.iconst 1, 1) := by decide +kernel
theorem dL_law_228 : decode cL_law 228 = .ok (.iadd, 1) := by decide +kernel
theorem dL_law_229 : decode cL_law 229 = .ok (.iaload, 1) := by decide +kernel
theorem dL_law_230 : decode cL_law 230 = .ok (.invokevirtual 25, 3) := by decide +kernel
theorem dL_law_233 : decode cL_law 233 = .ok (.aload_n 2, 1) := by decide +kernel
theorem dL_law_234 : decode cL_law 234 = .ok (.aload_n 0, 1) := by decide +kernel
theorem dL_law_235 : decode cL_law 235 = .ok (.iload_n 3, 1) := by decide +kernel
theorem dL_law_236 : decode cL_law 236 = .ok (.iconst 1, 1) := by decide +kernel
theorem dL_law_237 : decode cL_law 237 = .ok (.iadd, 1) := by decide +kernel
theorem dL_law_238 : decode cL_law 238 = .ok (.iaload, 1) := by decide +kernel
theorem dL_law_239 : decode cL_law 239 = .ok (.invokevirtual 28, 3) := by decide +kernel
theorem dL_law_242 : decode cL_law 242 = .ok (.if_icmp .eq 626, 3) := by decide +kernel
theorem dL_law_245 : decode cL_law 245 = .ok (.iconst 0, 1) := by decide +kernel
theorem dL_law_246 : decode cL_law 246 = .ok (.ireturn, 1) := by decide +kernel
theorem dL_law_247 : decode cL_law 247 = .ok (.aload_n 1, 1) := by decide +kernel
theorem dL_law_248 : decode cL_law 248 = .ok (.aload_n 0, 1) := by decide +kernel
theorem dL_law_249 : decode cL_law 249 = .ok (.iload_n 3, 1) := by decide +kernel
theorem dL_law_250 : decode cL_law 250 = .ok (.iconst 1, 1) := by decide +kernel
theorem dL_law_251 : decode cL_law 251 = .ok (.iadd, 1) := by decide +kernel
theorem dL_law_252 : decode cL_law 252 = .ok (.iaload, 1) := by decide +kernel
theorem dL_law_253 : decode cL_law 253 = .ok (.aload_n 0, 1) := by decide +kernel
theorem dL_law_254 : decode cL_law 254 = .ok (.iload_n 3, 1) := by decide +kernel
theorem dL_law_255 : decode cL_law 255 = .ok (.iconst 2, 1) := by decide +kernel
theorem dL_law_256 : decode cL_law 256 = .ok (.iadd, 1) := by decide +kernel
theorem dL_law_257 : decode cL_law 257 = .ok (.iaload, 1) := by decide +kernel
theorem dL_law_258 : decode cL_law 258 = .ok (.invokevirtual 29, 3) := by decide +kernel
theorem dL_law_261 : decode cL_law 261 = .ok (.aload_n 2, 1) := by decide +kernel
theorem dL_law_262 : decode cL_law 262 = .ok (.aload_n 0, 1) := by decide +kernel
theorem dL_law_263 : decode cL_law 263 = .ok (.iload_n 3, 1) := by decide +kernel
theorem dL_law_264 : decode cL_law 264 = .ok (.iconst 1, 1) := by decide +kernel
theorem dL_law_265 : decode cL_law 265 = .ok (.iadd, 1) := by decide +kernel
theorem dL_law_266 : decode cL_law 266 = .ok (.iaload, 1) := by decide +kernel
theorem dL_law_267 : decode cL_law 267 = .ok (.aload_n 0, 1) := by decide +kernel
theorem dL_law_268 : decode cL_law 268 = .ok (.iload_n 3, 1) := by decide +kernel
theorem dL_law_269 : decode cL_law 269 = .ok (.iconst 2, 1) := by decide +kernel
theorem dL_law_270 : decode cL_law 270 = .ok (.iadd, 1) := by decide +kernel
theorem dL_law_271 : decode cL_law 271 = .ok (.iaload, 1) := by decide +kernel
theorem dL_law_272 : decode cL_law 272 = .ok (.invokevirtual 33, 3) := by decide +kernel
theorem dL_law_275 : decode cL_law 275 = .ok (.if_icmp .eq 593, 3) := by decide +kernel
theorem dL_law_278 : decode cL_law 278 = .ok (.iconst 0, 1) := by decide +kernel
theorem dL_law_279 : decode cL_law 279 = .ok (.ireturn, 1) := by decide +kernel
theorem dL_law_280 : decode cL_law 280 = .ok (.aload_n 1, 1) := by decide +kernel
theorem dL_law_281 : decode cL_law 281 = .ok (.aload_n 0, 1) := by decide +kernel
theorem dL_law_282 : decode cL_law 282 = .ok (.iload_n 3, 1) := by decide +kernel
theorem dL_law_283 : decode cL_law 283 = .ok (.iconst 1, 1) := by decide +kernel
theorem dL_law_284 : decode cL_law 284 = .ok (.iadd, 1) := by decide +kernel
theorem dL_law_285 : decode cL_law 285 = .ok (.iaload, 1) := by decide +kernel
theorem dL_law_286 : decode cL_law 286 = .ok (.aload_n 0, 1) := by decide +kernel
theorem dL_law_287 : decode cL_law 287 = .ok (.iload_n 3, 1) := by decide +kernel
theorem dL_law_288 : decode cL_law 288 = .ok (.iconst 2, 1) := by decide +kernel
theorem dL_law_289 : decode cL_law 289 = .ok (.iadd, 1) := by decide +kernel
theorem dL_law_290 : decode cL_law 290 = .ok (.iaload, 1) := by decide +kernel
theorem dL_law_291 : decode cL_law 291 = .ok (.aload_n 0, 1) := by decide +kernel
theorem dL_law_292 : decode cL_law 292 = .ok (.iload_n 3, 1) := by decide +kernel
theorem dL_law_293 : decode cL_law 293 = .ok (.iconst 3, 1) := by decide +kernel
theorem dL_law_294 : decode cL_law 294 = .ok (.iadd, 1) := by decide +kernel
theorem dL_law_295 : decode cL_law 295 = .ok (.iaload, 1) := by decide +kernel
theorem dL_law_296 : decode cL_law 296 = .ok (.invokevirtual 34, 3) := by decide +kernel
theorem dL_law_299 : decode cL_law 299 = .ok (.aload_n 2, 1) := by decide +kernel
theorem dL_law_300 : decode cL_law 300 = .ok (.aload_n 0, 1) := by decide +kernel
theorem dL_law_301 : decode cL_law 301 = .ok (.iload_n 3, 1) := by decide +kernel
theorem dL_law_302 : decode cL_law 302 = .ok (.iconst 1, 1) := by decide +kernel
theorem dL_law_303 : decode cL_law 303 = .ok (.iadd, 1) := by decide +kernel
theorem dL_law_304 : decode cL_law 304 = .ok (.iaload, 1) := by decide +kernel
theorem dL_law_305 : decode cL_law 305 = .ok (.aload_n 0, 1) := by decide +kernel
theorem dL_law_306 : decode cL_law 306 = .ok (.iload_n 3, 1) := by decide +kernel
theorem dL_law_307 : decode cL_law 307 = .ok (.iconst 2, 1) := by decide +kernel
theorem dL_law_308 : decode cL_law 308 = .ok (.iadd, 1) := by decide +kernel
theorem dL_law_309 : decode cL_law 309 = .ok (.iaload, 1) := by decide +kernel
theorem dL_law_310 : decode cL_law 310 = .ok (.aload_n 0, 1) := by decide +kernel
theorem dL_law_311 : decode cL_law 311 = .ok (.iload_n 3, 1) := by decide +kernel
theorem dL_law_312 : decode cL_law 312 = .ok (.iconst 3, 1) := by decide +kernel
theorem dL_law_313 : decode cL_law 313 = .ok (.iadd, 1) := by decide +kernel
theorem dL_law_314 : decode cL_law 314 = .ok (.iaload, 1) := by decide +kernel
theorem dL_law_315 : decode cL_law 315 = .ok (.invokevirtual 38, 3) := by decide +kernel
theorem dL_law_318 : decode cL_law 318 = .ok (.if_icmp .eq 550, 3) := by decide +kernel
theorem dL_law_321 : decode cL_law 321 = .ok (.iconst 0, 1) := by decide +kernel
theorem dL_law_322 : decode cL_law 322 = .ok (.ireturn, 1) := by decide +kernel
theorem dL_law_323 : decode cL_law 323 = .ok (.aload_n 1, 1) := by decide +kernel
theorem dL_law_324 : decode cL_law 324 = .ok (.aload_n 0, 1) := by decide +kernel
theorem dL_law_325 : decode cL_law 325 = .ok (.iload_n 3, 1) := by decide +kernel
theorem dL_law_326 : decode cL_law 326 = .ok (.iconst 1, 1) := by decide +kernel
theorem dL_law_327 : decode cL_law 327 = .ok (.iadd, 1) := by decide +kernel
theorem dL_law_328 : decode cL_law 328 = .ok (.iaload, 1) := by decide +kernel
theorem dL_law_329 : decode cL_law 329 = .ok (.aload_n 0, 1) := by decide +kernel
theorem dL_law_330 : decode cL_law 330 = .ok (.iload_n 3, 1) := by decide +kernel
theorem dL_law_331 : decode cL_law 331 = .ok (.iconst 2, 1) := by decide +kernel
theorem dL_law_332 : decode cL_law 332 = .ok (.iadd, 1) := by decide +kernel
theorem dL_law_333 : decode cL_law 333 = .ok (.iaload, 1) := by decide +kernel
theorem dL_law_334 : decode cL_law 334 = .ok (.invokevirtual 39, 3) := by decide +kernel
theorem dL_law_337 : decode cL_law 337 = .ok (.aload_n 2, 1) := by decide +kernel
theorem dL_law_338 : decode cL_law 338 = .ok (.aload_n 0, 1) := by decide +kernel
theorem dL_law_339 : decode cL_law 339 = .ok (.iload_n 3, 1) := by decide +kernel
theorem dL_law_340 : decode cL_law 340 = .ok (.iconst 1, 1) := by decide +kernel
theorem dL_law_341 : decode cL_law 341 = .ok (.iadd, 1) := by decide +kernel
theorem dL_law_342 : decode cL_law 342 = .ok (.iaload, 1) := by decide +kernel
theorem dL_law_343 : decode cL_law 343 = .ok (.aload_n 0, 1) := by decide +kernel
theorem dL_law_344 : decode cL_law 344 = .ok (.iload_n 3, 1) := by decide +kernel
theorem dL_law_345 : decode cL_law 345 = .ok (.iconst 2, 1) := by decide +kernel
theorem dL_law_346 : decode cL_law 346 = .ok (.iadd, 1) := by decide +kernel
theorem dL_law_347 : decode cL_law 347 = .ok (.iaload, 1) := by decide +kernel
theorem dL_law_348 : decode cL_law 348 = .ok (.invokevirtual 42, 3) := by decide +kernel
theorem dL_law_351 : decode cL_law 351 = .ok (.if_icmp .eq 517, 3) := by decide +kernel
theorem dL_law_354 : decode cL_law 354 = .ok (.iconst 0, 1) := by decide +kernel
theorem dL_law_355 : decode cL_law 355 = .ok (.ireturn, 1) := by decide +kernel
theorem dL_law_356 : decode cL_law 356 = .ok (.aload_n 1, 1) := by decide +kernel
theorem dL_law_357 : decode cL_law 357 = .ok (.aload_n 0, 1) := by decide +kernel
theorem dL_law_358 : decode cL_law 358 = .ok (.iload_n 3, 1) := by decide +kernel
theorem dL_law_359 : decode cL_law 359 = .ok (.iconst 1, 1) := by decide +kernel
theorem dL_law_360 : decode cL_law 360 = .ok (.iadd, 1) := by decide +kernel
theorem dL_law_361 : decode cL_law 361 = .ok (.iaload, 1) := by decide +kernel
theorem dL_law_362 : decode cL_law 362 = .ok (.aload_n 0, 1) := by decide +kernel
theorem dL_law_363 : decode cL_law 363 = .ok (.iload_n 3, 1) := by decide +kernel
theorem dL_law_364 : decode cL_law 364 = .ok (.iconst 2, 1) := by decide +kernel
theorem dL_law_365 : decode cL_law 365 = .ok (.iadd, 1) := by decide +kernel
theorem dL_law_366 : decode cL_law 366 = .ok (.iaload, 1) := by decide +kernel
theorem dL_law_367 : decode cL_law 367 = .ok (.aload_n 0, 1) := by decide +kernel
theorem dL_law_368 : decode cL_law 368 = .ok (.iload_n 3, 1) := by decide +kernel
theorem dL_law_369 : decode cL_law 369 = .ok (.iconst 3, 1) := by decide +kernel
theorem dL_law_370 : decode cL_law 370 = .ok (.iadd, 1) := by decide +kernel
theorem dL_law_371 : decode cL_law 371 = .ok (.iaload, 1) := by decide +kernel
theorem dL_law_372 : decode cL_law 372 = .ok (.aload_n 0, 1) := by decide +kernel
theorem dL_law_373 : decode cL_law 373 = .ok (.iload_n 3, 1) := by decide +kernel
theorem dL_law_374 : decode cL_law 374 = .ok (.iconst 4, 1) := by decide +kernel
theorem dL_law_375 : decode cL_law 375 = .ok (.iadd, 1) := by decide +kernel
theorem dL_law_376 : decode cL_law 376 = .ok (.iaload, 1) := by decide +kernel
theorem dL_law_377 : decode cL_law 377 = .ok (.invokevirtual 43, 3) := by decide +kernel
theorem dL_law_380 : decode cL_law 380 = .ok (.aload_n 2, 1) := by decide +kernel
theorem dL_law_381 : decode cL_law 381 = .ok (.aload_n 0, 1) := by decide +kernel
theorem dL_law_382 : decode cL_law 382 = .ok (.iload_n 3, 1) := by decide +kernel
theorem dL_law_383 : decode cL_law 383 = .ok (.iconst 1, 1) := by decide +kernel
theorem dL_law_384 : decode cL_law 384 = .ok (.iadd, 1) := by decide +kernel
theorem dL_law_385 : decode cL_law 385 = .ok (.iaload, 1) := by decide +kernel
theorem dL_law_386 : decode cL_law 386 = .ok (.aload_n 0, 1) := by decide +kernel
theorem dL_law_387 : decode cL_law 387 = .ok (.iload_n 3, 1) := by decide +kernel
theorem dL_law_388 : decode cL_law 388 = .ok (.iconst 2, 1) := by decide +kernel
theorem dL_law_389 : decode cL_law 389 = .ok (.iadd, 1) := by decide +kernel
theorem dL_law_390 : decode cL_law 390 = .ok (.iaload, 1) := by decide +kernel
theorem dL_law_391 : decode cL_law 391 = .ok (.aload_n 0, 1) := by decide +kernel
theorem dL_law_392 : decode cL_law 392 = .ok (.iload_n 3, 1) := by decide +kernel
theorem dL_law_393 : decode cL_law 393 = .ok (.iconst 3, 1) := by decide +kernel
theorem dL_law_394 : decode cL_law 394 = .ok (.iadd, 1) := by decide +kernel
theorem dL_law_395 : decode cL_law 395 = .ok (.iaload, 1) := by decide +kernel
theorem dL_law_396 : decode cL_law 396 = .ok (.aload_n 0, 1) := by decide +kernel
theorem dL_law_397 : decode cL_law 397 = .ok (.iload_n 3, 1) := by decide +kernel
theorem dL_law_398 : decode cL_law 398 = .ok (.iconst 4, 1) := by decide +kernel
theorem dL_law_399 : decode cL_law 399 = .ok (.iadd, 1) := by decide +kernel
theorem dL_law_400 : decode cL_law 400 = .ok (.iaload, 1) := by decide +kernel
theorem dL_law_401 : decode cL_law 401 = .ok (.invokevirtual 47, 3) := by decide +kernel
theorem dL_law_404 : decode cL_law 404 = .ok (.if_icmp .eq 464, 3) := by decide +kernel
theorem dL_law_407 : decode cL_law 407 = .ok (.iconst 0, 1) := by decide +kernel
theorem dL_law_408 : decode cL_law 408 = .ok (.ireturn, 1) := by decide +kernel
theorem dL_law_409 : decode cL_law 409 = .ok (.aload_n 1, 1) := by decide +kernel
theorem dL_law_410 : decode cL_law 410 = .ok (.aload_n 0, 1) := by decide +kernel
theorem dL_law_411 : decode cL_law 411 = .ok (.iload_n 3, 1) := by decide +kernel
theorem dL_law_412 : decode cL_law 412 = .ok (.iconst 1, 1) := by decide +kernel
theorem dL_law_413 : decode cL_law 413 = .ok (.iadd, 1) := by decide +kernel
theorem dL_law_414 : decode cL_law 414 = .ok (.iaload, 1) := by decide +kernel
theorem dL_law_415 : decode cL_law 415 = .ok (.aload_n 0, 1) := by decide +kernel
theorem dL_law_416 : decode cL_law 416 = .ok (.iload_n 3, 1) := by decide +kernel
theorem dL_law_417 : decode cL_law 417 = .ok (.iconst 2, 1) := by decide +kernel
theorem dL_law_418 : decode cL_law 418 = .ok (.iadd, 1) := by decide +kernel
theorem dL_law_419 : decode cL_law 419 = .ok (.iaload, 1) := by decide +kernel
theorem dL_law_420 : decode cL_law 420 = .ok (.aload_n 0, 1) := by decide +kernel
theorem dL_law_421 : decode cL_law 421 = .ok (.iload_n 3, 1) := by decide +kernel
theorem dL_law_422 : decode cL_law 422 = .ok (.iconst 3, 1) := by decide +kernel
theorem dL_law_423 : decode cL_law 423 = .ok (.iadd, 1) := by decide +kernel
theorem dL_law_424 : decode cL_law 424 = .ok (.iaload, 1) := by decide +kernel
theorem dL_law_425 : decode cL_law 425 = .ok (.aload_n 0, 1) := by decide +kernel
theorem dL_law_426 : decode cL_law 426 = .ok (.iload_n 3, 1) := by decide +kernel
theorem dL_law_427 : decode cL_law 427 = .ok (.iconst 4, 1) := by decide +kernel
theorem dL_law_428 : decode cL_law 428 = .ok (.iadd, 1) := by decide +kernel
theorem dL_law_429 : decode cL_law 429 = .ok (.iaload, 1) := by decide +kernel
theorem dL_law_430 : decode cL_law 430 = .ok (.i2l, 1) := by decide +kernel
theorem dL_law_431 : decode cL_law 431 = .ok (.bipush 32, 2) := by decide +kernel
theorem dL_law_433 : decode cL_law 433 = .ok (.lshl, 1) := by decide +kernel
theorem dL_law_434 : decode cL_law 434 = .ok (.aload_n 0, 1) := by decide +kernel
theorem dL_law_435 : decode cL_law 435 = .ok (.iload_n 3, 1) := by decide +kernel
theorem dL_law_436 : decode cL_law 436 = .ok (.iconst 5, 1) := by decide +kernel
theorem dL_law_437 : decode cL_law 437 = .ok (.iadd, 1) := by decide +kernel
theorem dL_law_438 : decode cL_law 438 = .ok (.iaload, 1) := by decide +kernel
theorem dL_law_439 : decode cL_law 439 = .ok (.i2l, 1) := by decide +kernel
theorem dL_law_440 : decode cL_law 440 = .ok (.ldc2_w 13, 3) := by decide +kernel
theorem dL_law_443 : decode cL_law 443 = .ok (.land, 1) := by decide +kernel
theorem dL_law_444 : decode cL_law 444 = .ok (.lor, 1) := by decide +kernel
theorem dL_law_445 : decode cL_law 445 = .ok (.invokevirtual 48, 3) := by decide +kernel
theorem dL_law_448 : decode cL_law 448 = .ok (.aload_n 2, 1) := by decide +kernel
theorem dL_law_449 : decode cL_law 449 = .ok (.aload_n 0, 1) := by decide +kernel
theorem dL_law_450 : decode cL_law 450 = .ok (.iload_n 3, 1) := by decide +kernel
theorem dL_law_451 : decode cL_law 451 = .ok (.iconst 1, 1) := by decide +kernel
theorem dL_law_452 : decode cL_law 452 = .ok (.iadd, 1) := by decide +kernel
theorem dL_law_453 : decode cL_law 453 = .ok (.iaload, 1) := by decide +kernel
theorem dL_law_454 : decode cL_law 454 = .ok (.aload_n 0, 1) := by decide +kernel
theorem dL_law_455 : decode cL_law 455 = .ok (.iload_n 3, 1) := by decide +kernel
theorem dL_law_456 : decode cL_law 456 = .ok (.iconst 2, 1) := by decide +kernel
theorem dL_law_457 : decode cL_law 457 = .ok (.iadd, 1) := by decide +kernel
theorem dL_law_458 : decode cL_law 458 = .ok (.iaload, 1) := by decide +kernel
theorem dL_law_459 : decode cL_law 459 = .ok (.aload_n 0, 1) := by decide +kernel
theorem dL_law_460 : decode cL_law 460 = .ok (.iload_n 3, 1) := by decide +kernel
theorem dL_law_461 : decode cL_law 461 = .ok (.iconst 3, 1) := by decide +kernel
theorem dL_law_462 : decode cL_law 462 = .ok (.iadd, 1) := by decide +kernel
theorem dL_law_463 : decode cL_law 463 = .ok (.iaload, 1) := by decide +kernel
theorem dL_law_464 : decode cL_law 464 = .ok (.aload_n 0, 1) := by decide +kernel
theorem dL_law_465 : decode cL_law 465 = .ok (.iload_n 3, 1) := by decide +kernel
theorem dL_law_466 : decode cL_law 466 = .ok (.iconst 4, 1) := by decide +kernel
theorem dL_law_467 : decode cL_law 467 = .ok (.iadd, 1) := by decide +kernel
theorem dL_law_468 : decode cL_law 468 = .ok (.iaload, 1) := by decide +kernel
theorem dL_law_469 : decode cL_law 469 = .ok (.i2l, 1) := by decide +kernel
theorem dL_law_470 : decode cL_law 470 = .ok (.bipush 32, 2) := by decide +kernel
theorem dL_law_472 : decode cL_law 472 = .ok (.lshl, 1) := by decide +kernel
theorem dL_law_473 : decode cL_law 473 = .ok (.aload_n 0, 1) := by decide +kernel
theorem dL_law_474 : decode cL_law 474 = .ok (.iload_n 3, 1) := by decide +kernel
theorem dL_law_475 : decode cL_law 475 = .ok (.iconst 5, 1) := by decide +kernel
theorem dL_law_476 : decode cL_law 476 = .ok (.iadd, 1) := by decide +kernel
theorem dL_law_477 : decode cL_law 477 = .ok (.iaload, 1) := by decide +kernel
theorem dL_law_478 : decode cL_law 478 = .ok (.i2l, 1) := by decide +kernel
theorem dL_law_479 : decode cL_law 479 = .ok (.ldc2_w 13, 3) := by decide +kernel
theorem dL_law_482 : decode cL_law 482 = .ok (.land, 1) := by decide +kernel
theorem dL_law_483 : decode cL_law 483 = .ok (.lor, 1) := by decide +kernel
theorem dL_law_484 : decode cL_law 484 = .ok (.invokevirtual 52, 3) := by decide +kernel
theorem dL_law_487 : decode cL_law 487 = .ok (.if_icmp .eq 381, 3) := by decide +kernel
theorem dL_law_490 : decode cL_law 490 = .ok (.iconst 0, 1) := by decide +kernel
theorem dL_law_491 : decode cL_law 491 = .ok (.ireturn, 1) := by decide +kernel
theorem dL_law_492 : decode cL_law 492 = .ok (.aload_n 1, 1) := by decide +kernel
theorem dL_law_493 : decode cL_law 493 = .ok (.aload_n 0, 1) := by decide +kernel
theorem dL_law_494 : decode cL_law 494 = .ok (.iload_n 3, 1) := by decide +kernel
theorem dL_law_495 : decode cL_law 495 = .ok (.iconst 1, 1) := by decide +kernel
theorem dL_law_496 : decode cL_law 496 = .ok (.iadd, 1) := by decide +kernel
theorem dL_law_497 : decode cL_law 497 = .ok (.iaload, 1) := by decide +kernel
theorem dL_law_498 : decode cL_law 498 = .ok (.aload_n 0, 1) := by decide +kernel
theorem dL_law_499 : decode cL_law 499 = .ok (.iload_n 3, 1) := by decide +kernel
theorem dL_law_500 : decode cL_law 500 = .ok (.iconst 2, 1) := by decide +kernel
theorem dL_law_501 : decode cL_law 501 = .ok (.iadd, 1) := by decide +kernel
theorem dL_law_502 : decode cL_law 502 = .ok (.iaload, 1) := by decide +kernel
theorem dL_law_503 : decode cL_law 503 = .ok (.invokevirtual 53, 3) := by decide +kernel
theorem dL_law_506 : decode cL_law 506 = .ok (.aload_n 2, 1) := by decide +kernel
theorem dL_law_507 : decode cL_law 507 = .ok (.aload_n 0, 1) := by decide +kernel
theorem dL_law_508 : decode cL_law 508 = .ok (.iload_n 3, 1) := by decide +kernel
theorem dL_law_509 : decode cL_law 509 = .ok (.iconst 1, 1) := by decide +kernel
theorem dL_law_510 : decode cL_law 510 = .ok (.iadd, 1) := by decide +kernel
theorem dL_law_511 : decode cL_law 511 = .ok (.iaload, 1) := by decide +kernel
theorem dL_law_512 : decode cL_law 512 = .ok (.aload_n 0, 1) := by decide +kernel
theorem dL_law_513 : decode cL_law 513 = .ok (.iload_n 3, 1) := by decide +kernel
theorem dL_law_514 : decode cL_law 514 = .ok (.iconst 2, 1) := by decide +kernel
theorem dL_law_515 : decode cL_law 515 = .ok (.iadd, 1) := by decide +kernel
theorem dL_law_516 : decode cL_law 516 = .ok (.iaload, 1) := by decide +kernel
theorem dL_law_517 : decode cL_law 517 = .ok (.invokevirtual 56, 3) := by decide +kernel
theorem dL_law_520 : decode cL_law 520 = .ok (.if_icmp .eq 348, 3) := by decide +kernel
theorem dL_law_523 : decode cL_law 523 = .ok (.iconst 0, 1) := by decide +kernel
theorem dL_law_524 : decode cL_law 524 = .ok (.ireturn, 1) := by decide +kernel
theorem dL_law_525 : decode cL_law 525 = .ok (.aload_n 1, 1) := by decide +kernel
theorem dL_law_526 : decode cL_law 526 = .ok (.aload_n 0, 1) := by decide +kernel
theorem dL_law_527 : decode cL_law 527 = .ok (.iload_n 3, 1) := by decide +kernel
theorem dL_law_528 : decode cL_law 528 = .ok (.iconst 1, 1) := by decide +kernel
theorem dL_law_529 : decode cL_law 529 = .ok (.iadd, 1) := by decide +kernel
theorem dL_law_530 : decode cL_law 530 = .ok (.iaload, 1) := by decide +kernel
theorem dL_law_531 : decode cL_law 531 = .ok (.aload_n 0, 1) := by decide +kernel
theorem dL_law_532 : decode cL_law 532 = .ok (.iload_n 3, 1) := by decide +kernel
theorem dL_law_533 : decode cL_law 533 = .ok (.iconst 2, 1) := by decide +kernel
theorem dL_law_534 : decode cL_law 534 = .ok (.iadd, 1) := by decide +kernel
theorem dL_law_535 : decode cL_law 535 = .ok (.iaload, 1) := by decide +kernel
theorem dL_law_536 : decode cL_law 536 = .ok (.invokevirtual 57, 3) := by decide +kernel
theorem dL_law_539 : decode cL_law 539 = .ok (.aload_n 2, 1) := by decide +kernel
theorem dL_law_540 : decode cL_law 540 = .ok (.aload_n 0, 1) := by decide +kernel
theorem dL_law_541 : decode cL_law 541 = .ok (.iload_n 3, 1) := by decide +kernel
theorem dL_law_542 : decode cL_law 542 = .ok (.iconst 1, 1) := by decide +kernel
theorem dL_law_543 : decode cL_law 543 = .ok (.iadd, 1) := by decide +kernel
theorem dL_law_544 : decode cL_law 544 = .ok (.iaload, 1) := by decide +kernel
theorem dL_law_545 : decode cL_law 545 = .ok (.aload_n 0, 1) := by decide +kernel
theorem dL_law_546 : decode cL_law 546 = .ok (.iload_n 3, 1) := by decide +kernel
theorem dL_law_547 : decode cL_law 547 = .ok (.iconst 2, 1) := by decide +kernel
theorem dL_law_548 : decode cL_law 548 = .ok (.iadd, 1) := by decide +kernel
theorem dL_law_549 : decode cL_law 549 = .ok (.iaload, 1) := by decide +kernel
theorem dL_law_550 : decode cL_law 550 = .ok (.invokevirtual 60, 3) := by decide +kernel
theorem dL_law_553 : decode cL_law 553 = .ok (.if_icmp .eq 315, 3) := by decide +kernel
theorem dL_law_556 : decode cL_law 556 = .ok (.iconst 0, 1) := by decide +kernel
theorem dL_law_557 : decode cL_law 557 = .ok (.ireturn, 1) := by decide +kernel
theorem dL_law_558 : decode cL_law 558 = .ok (.aload_n 1, 1) := by decide +kernel
theorem dL_law_559 : decode cL_law 559 = .ok (.aload_n 0, 1) := by decide +kernel
theorem dL_law_560 : decode cL_law 560 = .ok (.iload_n 3, 1) := by decide +kernel
theorem dL_law_561 : decode cL_law 561 = .ok (.iconst 1, 1) := by decide +kernel
theorem dL_law_562 : decode cL_law 562 = .ok (.iadd, 1) := by decide +kernel
theorem dL_law_563 : decode cL_law 563 = .ok (.iaload, 1) := by decide +kernel
theorem dL_law_564 : decode cL_law 564 = .ok (.aload_n 0, 1) := by decide +kernel
theorem dL_law_565 : decode cL_law 565 = .ok (.iload_n 3, 1) := by decide +kernel
theorem dL_law_566 : decode cL_law 566 = .ok (.iconst 2, 1) := by decide +kernel
theorem dL_law_567 : decode cL_law 567 = .ok (.iadd, 1) := by decide +kernel
theorem dL_law_568 : decode cL_law 568 = .ok (.iaload, 1) := by decide +kernel
theorem dL_law_569 : decode cL_law 569 = .ok (.aload_n 0, 1) := by decide +kernel
theorem dL_law_570 : decode cL_law 570 = .ok (.iload_n 3, 1) := by decide +kernel
theorem dL_law_571 : decode cL_law 571 = .ok (.iconst 3, 1) := by decide +kernel
theorem dL_law_572 : decode cL_law 572 = .ok (.iadd, 1) := by decide +kernel
theorem dL_law_573 : decode cL_law 573 = .ok (.iaload, 1) := by decide +kernel
theorem dL_law_574 : decode cL_law 574 = .ok (.invokevirtual 61, 3) := by decide +kernel
theorem dL_law_577 : decode cL_law 577 = .ok (.aload_n 2, 1) := by decide +kernel
theorem dL_law_578 : decode cL_law 578 = .ok (.aload_n 0, 1) := by decide +kernel
theorem dL_law_579 : decode cL_law 579 = .ok (.iload_n 3, 1) := by decide +kernel
theorem dL_law_580 : decode cL_law 580 = .ok (.iconst 1, 1) := by decide +kernel
theorem dL_law_581 : decode cL_law 581 = .ok (.iadd, 1) := by decide +kernel
theorem dL_law_582 : decode cL_law 582 = .ok (.iaload, 1) := by decide +kernel
theorem dL_law_583 : decode cL_law 583 = .ok (.aload_n 0, 1) := by decide +kernel
theorem dL_law_584 : decode cL_law 584 = .ok (.iload_n 3, 1) := by decide +kernel
theorem dL_law_585 : decode cL_law 585 = .ok (.iconst 2, 1) := by decide +kernel
theorem dL_law_586 : decode cL_law 586 = .ok (.iadd, 1) := by decide +kernel
theorem dL_law_587 : decode cL_law 587 = .ok (.iaload, 1) := by decide +kernel
theorem dL_law_588 : decode cL_law 588 = .ok (.aload_n 0, 1) := by decide +kernel
theorem dL_law_589 : decode cL_law 589 = .ok (.iload_n 3, 1) := by decide +kernel
theorem dL_law_590 : decode cL_law 590 = .ok (.iconst 3, 1) := by decide +kernel
theorem dL_law_591 : decode cL_law 591 = .ok (.iadd, 1) := by decide +kernel
theorem dL_law_592 : decode cL_law 592 = .ok (.iaload, 1) := by decide +kernel
theorem dL_law_593 : decode cL_law 593 = .ok (.invokevirtual 64, 3) := by decide +kernel
theorem dL_law_596 : decode cL_law 596 = .ok (.if_icmp .eq 272, 3) := by decide +kernel
theorem dL_law_599 : decode cL_law 599 = .ok (.iconst 0, 1) := by decide +kernel
theorem dL_law_600 : decode cL_law 600 = .ok (.ireturn, 1) := by decide +kernel
theorem dL_law_601 : decode cL_law 601 = .ok (.aload_n 1, 1) := by decide +kernel
theorem dL_law_602 : decode cL_law 602 = .ok (.aload_n 0, 1) := by decide +kernel
theorem dL_law_603 : decode cL_law 603 = .ok (.iload_n 3, 1) := by decide +kernel
theorem dL_law_604 : decode cL_law 604 = .ok (.iconst 1, 1) := by decide +kernel
theorem dL_law_605 : decode cL_law 605 = .ok (.iadd, 1) := by decide +kernel
theorem dL_law_606 : decode cL_law 606 = .ok (.iaload, 1) := by decide +kernel
theorem dL_law_607 : decode cL_law 607 = .ok (.aload_n 0, 1) := by decide +kernel
theorem dL_law_608 : decode cL_law 608 = .ok (.iload_n 3, 1) := by decide +kernel
theorem dL_law_609 : decode cL_law 609 = .ok (.iconst 2, 1) := by decide +kernel
theorem dL_law_610 : decode cL_law 610 = .ok (.iadd, 1) := by decide +kernel
theorem dL_law_611 : decode cL_law 611 = .ok (.iaload, 1) := by decide +kernel
theorem dL_law_612 : decode cL_law 612 = .ok (.aload_n 0, 1) := by decide +kernel
theorem dL_law_613 : decode cL_law 613 = .ok (.iload_n 3, 1) := by decide +kernel
theorem dL_law_614 : decode cL_law 614 = .ok (.iconst 3, 1) := by decide +kernel
theorem dL_law_615 : decode cL_law 615 = .ok (.iadd, 1) := by decide +kernel
theorem dL_law_616 : decode cL_law 616 = .ok (.iaload, 1) := by decide +kernel
theorem dL_law_617 : decode cL_law 617 = .ok (.invokevirtual 65, 3) := by decide +kernel
theorem dL_law_620 : decode cL_law 620 = .ok (.aload_n 2, 1) := by decide +kernel
theorem dL_law_621 : decode cL_law 621 = .ok (.aload_n 0, 1) := by decide +kernel
theorem dL_law_622 : decode cL_law 622 = .ok (.iload_n 3, 1) := by decide +kernel
theorem dL_law_623 : decode cL_law 623 = .ok (.iconst 1, 1) := by decide +kernel
theorem dL_law_624 : decode cL_law 624 = .ok (.iadd, 1) := by decide +kernel
theorem dL_law_625 : decode cL_law 625 = .ok (.iaload, 1) := by decide +kernel
theorem dL_law_626 : decode cL_law 626 = .ok (.aload_n 0, 1) := by decide +kernel
theorem dL_law_627 : decode cL_law 627 = .ok (.iload_n 3, 1) := by decide +kernel
theorem dL_law_628 : decode cL_law 628 = .ok (.iconst 2, 1) := by decide +kernel
theorem dL_law_629 : decode cL_law 629 = .ok (.iadd, 1) := by decide +kernel
theorem dL_law_630 : decode cL_law 630 = .ok (.iaload, 1) := by decide +kernel
theorem dL_law_631 : decode cL_law 631 = .ok (.aload_n 0, 1) := by decide +kernel
theorem dL_law_632 : decode cL_law 632 = .ok (.iload_n 3, 1) := by decide +kernel
theorem dL_law_633 : decode cL_law 633 = .ok (.iconst 3, 1) := by decide +kernel
theorem dL_law_634 : decode cL_law 634 = .ok (.iadd, 1) := by decide +kernel
theorem dL_law_635 : decode cL_law 635 = .ok (.iaload, 1) := by decide +kernel
theorem dL_law_636 : decode cL_law 636 = .ok (.invokevirtual 68, 3) := by decide +kernel
theorem dL_law_639 : decode cL_law 639 = .ok (.if_icmp .eq 229, 3) := by decide +kernel
theorem dL_law_642 : decode cL_law 642 = .ok (.iconst 0, 1) := by decide +kernel
theorem dL_law_643 : decode cL_law 643 = .ok (.ireturn, 1) := by decide +kernel
theorem dL_law_644 : decode cL_law 644 = .ok (.aload_n 1, 1) := by decide +kernel
theorem dL_law_645 : decode cL_law 645 = .ok (.aload_n 0, 1) := by decide +kernel
theorem dL_law_646 : decode cL_law 646 = .ok (.iload_n 3, 1) := by decide +kernel
theorem dL_law_647 : decode cL_law 647 = .ok (.iconst 1, 1) := by decide +kernel
theorem dL_law_648 : decode cL_law 648 = .ok (.iadd, 1) := by decide +kernel
theorem dL_law_649 : decode cL_law 649 = .ok (.iaload, 1) := by decide +kernel
theorem dL_law_650 : decode cL_law 650 = .ok (.aload_n 0, 1) := by decide +kernel
theorem dL_law_651 : decode cL_law 651 = .ok (.iload_n 3, 1) := by decide +kernel
theorem dL_law_652 : decode cL_law 652 = .ok (.iconst 2, 1) := by decide +kernel
theorem dL_law_653 : decode cL_law 653 = .ok (.iadd, 1) := by decide +kernel
theorem dL_law_654 : decode cL_law 654 = .ok (.iaload, 1) := by decide +kernel
theorem dL_law_655 : decode cL_law 655 = .ok (.invokevirtual 69, 3) := by decide +kernel
theorem dL_law_658 : decode cL_law 658 = .ok (.aload_n 2, 1) := by decide +kernel
theorem dL_law_659 : decode cL_law 659 = .ok (.aload_n 0, 1) := by decide +kernel
theorem dL_law_660 : decode cL_law 660 = .ok (.iload_n 3, 1) := by decide +kernel
theorem dL_law_661 : decode cL_law 661 = .ok (.iconst 1, 1) := by decide +kernel
theorem dL_law_662 : decode cL_law 662 = .ok (.iadd, 1) := by decide +kernel
theorem dL_law_663 : decode cL_law 663 = .ok (.iaload, 1) := by decide +kernel
theorem dL_law_664 : decode cL_law 664 = .ok (.aload_n 0, 1) := by decide +kernel
theorem dL_law_665 : decode cL_law 665 = .ok (.iload_n 3, 1) := by decide +kernel
theorem dL_law_666 : decode cL_law 666 = .ok (.iconst 2, 1) := by decide +kernel
theorem dL_law_667 : decode cL_law 667 = .ok (.iadd, 1) := by decide +kernel
theorem dL_law_668 : decode cL_law 668 = .ok (.iaload, 1) := by decide +kernel
theorem dL_law_669 : decode cL_law 669 = .ok (.invokevirtual 72, 3) := by decide +kernel
theorem dL_law_672 : decode cL_law 672 = .ok (.if_icmp .eq 196, 3) := by decide +kernel
theorem dL_law_675 : decode cL_law 675 = .ok (.iconst 0, 1) := by decide +kernel
theorem dL_law_676 : decode cL_law 676 = .ok (.ireturn, 1) := by decide +kernel
theorem dL_law_677 : decode cL_law 677 = .ok (.aload_n 1, 1) := by decide +kernel
theorem dL_law_678 : decode cL_law 678 = .ok (.aload_n 0, 1) := by decide +kernel
theorem dL_law_679 : decode cL_law 679 = .ok (.iload_n 3, 1) := by decide +kernel
theorem dL_law_680 : decode cL_law 680 = .ok (.iconst 1, 1) := by decide +kernel
theorem dL_law_681 : decode cL_law 681 = .ok (.iadd, 1) := by decide +kernel
theorem dL_law_682 : decode cL_law 682 = .ok (.iaload, 1) := by decide +kernel
theorem dL_law_683 : decode cL_law 683 = .ok (.invokevirtual 73, 3) := by decide +kernel
theorem dL_law_686 : decode cL_law 686 = .ok (.aload_n 2, 1) := by decide +kernel
theorem dL_law_687 : decode cL_law 687 = .ok (.aload_n 0, 1) := by decide +kernel
theorem dL_law_688 : decode cL_law 688 = .ok (.iload_n 3, 1) := by decide +kernel
theorem dL_law_689 : decode cL_law 689 = .ok (.iconst 1, 1) := by decide +kernel
theorem dL_law_690 : decode cL_law 690 = .ok (.iadd, 1) := by decide +kernel
theorem dL_law_691 : decode cL_law 691 = .ok (.iaload, 1) := by decide +kernel
theorem dL_law_692 : decode cL_law 692 = .ok (.invokevirtual 76, 3) := by decide +kernel
theorem dL_law_695 : decode cL_law 695 = .ok (.if_icmp .eq 173, 3) := by decide +kernel
theorem dL_law_698 : decode cL_law 698 = .ok (.iconst 0, 1) := by decide +kernel
theorem dL_law_699 : decode cL_law 699 = .ok (.ireturn, 1) := by decide +kernel
theorem dL_law_700 : decode cL_law 700 = .ok (.aload_n 1, 1) := by decide +kernel
theorem dL_law_701 : decode cL_law 701 = .ok (.aload_n 0, 1) := by decide +kernel
theorem dL_law_702 : decode cL_law 702 = .ok (.iload_n 3, 1) := by decide +kernel
theorem dL_law_703 : decode cL_law 703 = .ok (.iconst 1, 1) := by decide +kernel
theorem dL_law_704 : decode cL_law 704 = .ok (.iadd, 1) := by decide +kernel
theorem dL_law_705 : decode cL_law 705 = .ok (.iaload, 1) := by decide +kernel
theorem dL_law_706 : decode cL_law 706 = .ok (.invokevirtual 77, 3) := by decide +kernel
theorem dL_law_709 : decode cL_law 709 = .ok (.aload_n 2, 1) := by decide +kernel
theorem dL_law_710 : decode cL_law 710 = .ok (.aload_n 0, 1) := by decide +kernel
theorem dL_law_711 : decode cL_law 711 = .ok (.iload_n 3, 1) := by decide +kernel
theorem dL_law_712 : decode cL_law 712 = .ok (.iconst 1, 1) := by decide +kernel
theorem dL_law_713 : decode cL_law 713 = .ok (.iadd, 1) := by decide +kernel
theorem dL_law_714 : decode cL_law 714 = .ok (.iaload, 1) := by decide +kernel
theorem dL_law_715 : decode cL_law 715 = .ok (.invokevirtual 80, 3) := by decide +kernel
theorem dL_law_718 : decode cL_law 718 = .ok (.if_icmp .eq 150, 3) := by decide +kernel
theorem dL_law_721 : decode cL_law 721 = .ok (.iconst 0, 1) := by decide +kernel
theorem dL_law_722 : decode cL_law 722 = .ok (.ireturn, 1) := by decide +kernel
theorem dL_law_723 : decode cL_law 723 = .ok (.aload_n 1, 1) := by decide +kernel
theorem dL_law_724 : decode cL_law 724 = .ok (.aload_n 0, 1) := by decide +kernel
theorem dL_law_725 : decode cL_law 725 = .ok (.iload_n 3, 1) := by decide +kernel
theorem dL_law_726 : decode cL_law 726 = .ok (.iconst 1, 1) := by decide +kernel
theorem dL_law_727 : decode cL_law 727 = .ok (.iadd, 1) := by decide +kernel
theorem dL_law_728 : decode cL_law 728 = .ok (.iaload, 1) := by decide +kernel
theorem dL_law_729 : decode cL_law 729 = .ok (.invokevirtual 81, 3) := by decide +kernel
theorem dL_law_732 : decode cL_law 732 = .ok (.aload_n 2, 1) := by decide +kernel
theorem dL_law_733 : decode cL_law 733 = .ok (.aload_n 0, 1) := by decide +kernel
theorem dL_law_734 : decode cL_law 734 = .ok (.iload_n 3, 1) := by decide +kernel
theorem dL_law_735 : decode cL_law 735 = .ok (.iconst 1, 1) := by decide +kernel
theorem dL_law_736 : decode cL_law 736 = .ok (.iadd, 1) := by decide +kernel
theorem dL_law_737 : decode cL_law 737 = .ok (.iaload, 1) := by decide +kernel
theorem dL_law_738 : decode cL_law 738 = .ok (.invokevirtual 84, 3) := by decide +kernel
theorem dL_law_741 : decode cL_law 741 = .ok (.if_icmp .eq 127, 3) := by decide +kernel
theorem dL_law_744 : decode cL_law 744 = .ok (.iconst 0, 1) := by decide +kernel
theorem dL_law_745 : decode cL_law 745 = .ok (.ireturn, 1) := by decide +kernel
theorem dL_law_746 : decode cL_law 746 = .ok (.aload_n 1, 1) := by decide +kernel
theorem dL_law_747 : decode cL_law 747 = .ok (.aload_n 0, 1) := by decide +kernel
theorem dL_law_748 : decode cL_law 748 = .ok (.iload_n 3, 1) := by decide +kernel
theorem dL_law_749 : decode cL_law 749 = .ok (.iconst 1, 1) := by decide +kernel
theorem dL_law_750 : decode cL_law 750 = .ok (.iadd, 1) := by decide +kernel
theorem dL_law_751 : decode cL_law 751 = .ok (.iaload, 1) := by decide +kernel
theorem dL_law_752 : decode cL_law 752 = .ok (.invokevirtual 85, 3) := by decide +kernel
theorem dL_law_755 : decode cL_law 755 = .ok (.aload_n 2, 1) := by decide +kernel
theorem dL_law_756 : decode cL_law 756 = .ok (.aload_n 0, 1) := by decide +kernel
theorem dL_law_757 : decode cL_law 757 = .ok (.iload_n 3, 1) := by decide +kernel
theorem dL_law_758 : decode cL_law 758 = .ok (.iconst 1, 1) := by decide +kernel
theorem dL_law_759 : decode cL_law 759 = .ok (.iadd, 1) := by decide +kernel
theorem dL_law_760 : decode cL_law 760 = .ok (.iaload, 1) := by decide +kernel
theorem dL_law_761 : decode cL_law 761 = .ok (.invokevirtual 88, 3) := by decide +kernel
theorem dL_law_764 : decode cL_law 764 = .ok (.if_icmp .eq 104, 3) := by decide +kernel
theorem dL_law_767 : decode cL_law 767 = .ok (.iconst 0, 1) := by decide +kernel
theorem dL_law_768 : decode cL_law 768 = .ok (.ireturn, 1) := by decide +kernel
theorem dL_law_769 : decode cL_law 769 = .ok (.aload_n 1, 1) := by decide +kernel
theorem dL_law_770 : decode cL_law 770 = .ok (.aload_n 0, 1) := by decide +kernel
theorem dL_law_771 : decode cL_law 771 = .ok (.iload_n 3, 1) := by decide +kernel
theorem dL_law_772 : decode cL_law 772 = .ok (.iconst 1, 1) := by decide +kernel
theorem dL_law_773 : decode cL_law 773 = .ok (.iadd, 1) := by decide +kernel
theorem dL_law_774 : decode cL_law 774 = .ok (.iaload, 1) := by decide +kernel
theorem dL_law_775 : decode cL_law 775 = .ok (.aload_n 0, 1) := by decide +kernel
theorem dL_law_776 : decode cL_law 776 = .ok (.iload_n 3, 1) := by decide +kernel
theorem dL_law_777 : decode cL_law 777 = .ok (.iconst 2, 1) := by decide +kernel
theorem dL_law_778 : decode cL_law 778 = .ok (.iadd, 1) := by decide +kernel
theorem dL_law_779 : decode cL_law 779 = .ok (.iaload, 1) := by decide +kernel
theorem dL_law_780 : decode cL_law 780 = .ok (.invokevirtual 89, 3) := by decide +kernel
theorem dL_law_783 : decode cL_law 783 = .ok (.aload_n 2, 1) := by decide +kernel
theorem dL_law_784 : decode cL_law 784 = .ok (.aload_n 0, 1) := by decide +kernel
theorem dL_law_785 : decode cL_law 785 = .ok (.iload_n 3, 1) := by decide +kernel
theorem dL_law_786 : decode cL_law 786 = .ok (.iconst 1, 1) := by decide +kernel
theorem dL_law_787 : decode cL_law 787 = .ok (.iadd, 1) := by decide +kernel
theorem dL_law_788 : decode cL_law 788 = .ok (.iaload, 1) := by decide +kernel
theorem dL_law_789 : decode cL_law 789 = .ok (.aload_n 0, 1) := by decide +kernel
theorem dL_law_790 : decode cL_law 790 = .ok (.iload_n 3, 1) := by decide +kernel
theorem dL_law_791 : decode cL_law 791 = .ok (.iconst 2, 1) := by decide +kernel
theorem dL_law_792 : decode cL_law 792 = .ok (.iadd, 1) := by decide +kernel
theorem dL_law_793 : decode cL_law 793 = .ok (.iaload, 1) := by decide +kernel
theorem dL_law_794 : decode cL_law 794 = .ok (.invokevirtual 92, 3) := by decide +kernel
theorem dL_law_797 : decode cL_law 797 = .ok (.if_icmp .eq 71, 3) := by decide +kernel
theorem dL_law_800 : decode cL_law 800 = .ok (.iconst 0, 1) := by decide +kernel
theorem dL_law_801 : decode cL_law 801 = .ok (.ireturn, 1) := by decide +kernel
theorem dL_law_802 : decode cL_law 802 = .ok (.aload_n 1, 1) := by decide +kernel
theorem dL_law_803 : decode cL_law 803 = .ok (.aload_n 0, 1) := by decide +kernel
theorem dL_law_804 : decode cL_law 804 = .ok (.iload_n 3, 1) := by decide +kernel
theorem dL_law_805 : decode cL_law 805 = .ok (.iconst 1, 1) := by decide +kernel
theorem dL_law_806 : decode cL_law 806 = .ok (.iadd, 1) := by decide +kernel
theorem dL_law_807 : decode cL_law 807 = .ok (.iaload, 1) := by decide +kernel
theorem dL_law_808 : decode cL_law 808 = .ok (.invokevirtual 93, 3) := by decide +kernel
theorem dL_law_811 : decode cL_law 811 = .ok (.aload_n 2, 1) := by decide +kernel
theorem dL_law_812 : decode cL_law 812 = .ok (.aload_n 0, 1) := by decide +kernel
theorem dL_law_813 : decode cL_law 813 = .ok (.iload_n 3, 1) := by decide +kernel
theorem dL_law_814 : decode cL_law 814 = .ok (.iconst 1, 1) := by decide +kernel
theorem dL_law_815 : decode cL_law 815 = .ok (.iadd, 1) := by decide +kernel
theorem dL_law_816 : decode cL_law 816 = .ok (.iaload, 1) := by decide +kernel
theorem dL_law_817 : decode cL_law 817 = .ok (.invokevirtual 96, 3) := by decide +kernel
theorem dL_law_820 : decode cL_law 820 = .ok (.if_icmp .eq 48, 3) := by decide +kernel
theorem dL_law_823 : decode cL_law 823 = .ok (.iconst 0, 1) := by decide +kernel
theorem dL_law_824 : decode cL_law 824 = .ok (.ireturn, 1) := by decide +kernel
theorem dL_law_825 : decode cL_law 825 = .ok (.aload_n 1, 1) := by decide +kernel
theorem dL_law_826 : decode cL_law 826 = .ok (.aload_n 0, 1) := by decide +kernel
theorem dL_law_827 : decode cL_law 827 = .ok (.iload_n 3, 1) := by decide +kernel
theorem dL_law_828 : decode cL_law 828 = .ok (.iconst 1, 1) := by decide +kernel
theorem dL_law_829 : decode cL_law 829 = .ok (.iadd, 1) := by decide +kernel
theorem dL_law_830 : decode cL_law 830 = .ok (.iaload, 1) := by decide +kernel
theorem dL_law_831 : decode cL_law 831 = .ok (.aload_n 0, 1) := by decide +kernel
theorem dL_law_832 : decode cL_law 832 = .ok (.iload_n 3, 1) := by decide +kernel
theorem dL_law_833 : decode cL_law 833 = .ok (.iconst 2, 1) := by decide +kernel
theorem dL_law_834 : decode cL_law 834 = .ok (.iadd, 1) := by decide +kernel
theorem dL_law_835 : decode cL_law 835 = .ok (.iaload, 1) := by decide +kernel
theorem dL_law_836 : decode cL_law 836 = .ok (.aload_n 0, 1) := by decide +kernel
theorem dL_law_837 : decode cL_law 837 = .ok (.iload_n 3, 1) := by decide +kernel
theorem dL_law_838 : decode cL_law 838 = .ok (.iconst 3, 1) := by decide +kernel
theorem dL_law_839 : decode cL_law 839 = .ok (.iadd, 1) := by decide +kernel
theorem dL_law_840 : decode cL_law 840 = .ok (.iaload, 1) := by decide +kernel
theorem dL_law_841 : decode cL_law 841 = .ok (.invokevirtual 97, 3) := by decide +kernel
theorem dL_law_844 : decode cL_law 844 = .ok (.aload_n 2, 1) := by decide +kernel
theorem dL_law_845 : decode cL_law 845 = .ok (.aload_n 0, 1) := by decide +kernel
theorem dL_law_846 : decode cL_law 846 = .ok (.iload_n 3, 1) := by decide +kernel
theorem dL_law_847 : decode cL_law 847 = .ok (.iconst 1, 1) := by decide +kernel
theorem dL_law_848 : decode cL_law 848 = .ok (.iadd, 1) := by decide +kernel
theorem dL_law_849 : decode cL_law 849 = .ok (.iaload, 1) := by decide +kernel
theorem dL_law_850 : decode cL_law 850 = .ok (.aload_n 0, 1) := by decide +kernel
theorem dL_law_851 : decode cL_law 851 = .ok (.iload_n 3, 1) := by decide +kernel
theorem dL_law_852 : decode cL_law 852 = .ok (.iconst 2, 1) := by decide +kernel
theorem dL_law_853 : decode cL_law 853 = .ok (.iadd, 1) := by decide +kernel
theorem dL_law_854 : decode cL_law 854 = .ok (.iaload, 1) := by decide +kernel
theorem dL_law_855 : decode cL_law 855 = .ok (.aload_n 0, 1) := by decide +kernel
theorem dL_law_856 : decode cL_law 856 = .ok (.iload_n 3, 1) := by decide +kernel
theorem dL_law_857 : decode cL_law 857 = .ok (.iconst 3, 1) := by decide +kernel
theorem dL_law_858 : decode cL_law 858 = .ok (.iadd, 1) := by decide +kernel
theorem dL_law_859 : decode cL_law 859 = .ok (.iaload, 1) := by decide +kernel
theorem dL_law_860 : decode cL_law 860 = .ok (.invokevirtual 100, 3) := by decide +kernel
theorem dL_law_863 : decode cL_law 863 = .ok (.if_icmp .eq 5, 3) := by decide +kernel
theorem dL_law_866 : decode cL_law 866 = .ok (.iconst 0, 1) := by decide +kernel
theorem dL_law_867 : decode cL_law 867 = .ok (.ireturn, 1) := by decide +kernel
theorem dL_law_868 : decode cL_law 868 = .ok (.iinc 3 6, 3) := by decide +kernel
theorem dL_law_871 : decode cL_law 871 = .ok (.goto (-853), 3) := by decide +kernel
theorem dL_law_874 : decode cL_law 874 = .ok (.iconst 1, 1) := by decide +kernel
theorem dL_law_875 : decode cL_law 875 = .ok (.ireturn, 1) := by decide +kernel
end
