def lw_okq (q : MethodName × Nat) : Prop := (q.1.cls ≠ "java/lang/invoke/MethodHandle" ∧ q.1.cls ≠ "java/lang/invoke/VarHandle") ∧ Cond.instantiable q.1.cls q.2 ∈ tables_1 ∧ Cond.privateMethod q.1 ∈ tables_1 ∧ Cond.instanceMethod q.1 ∈ tables_1
theorem lw_p0 : lw_okq (⟨"TreeHashes$Hasher", "startChunk", "()V"⟩, 13) := ⟨⟨by decide +kernel, by decide +kernel⟩, List.mem_of_getElem? (i := 37) (by decide +kernel), List.mem_of_getElem? (i := 84) (by decide +kernel), List.mem_of_getElem? (i := 85) (by decide +kernel)⟩
theorem lw_p1 : lw_okq (⟨"TreeHashes$Hasher", "startBlock", "()V"⟩, 13) := ⟨⟨by decide +kernel, by decide +kernel⟩, List.mem_of_getElem? (i := 37) (by decide +kernel), List.mem_of_getElem? (i := 88) (by decide +kernel), List.mem_of_getElem? (i := 89) (by decide +kernel)⟩
theorem lw_p2 : lw_okq (⟨"TreeHashes$Bytes", "wordAt", "(I)I"⟩, 2) := ⟨⟨by decide +kernel, by decide +kernel⟩, List.mem_of_getElem? (i := 20) (by decide +kernel), List.mem_of_getElem? (i := 226) (by decide +kernel), List.mem_of_getElem? (i := 227) (by decide +kernel)⟩
theorem lw_p3 : lw_okq (⟨"TreeHashes", "deriveKey", "(LTreeHashes$Bytes;)V"⟩, 7) := ⟨⟨by decide +kernel, by decide +kernel⟩, List.mem_of_getElem? (i := 9) (by decide +kernel), List.mem_of_getElem? (i := 231) (by decide +kernel), List.mem_of_getElem? (i := 232) (by decide +kernel)⟩
theorem lw_p4 : lw_okq (⟨"TreeHashes$Hasher", "closeChunk", "()V"⟩, 13) := ⟨⟨by decide +kernel, by decide +kernel⟩, List.mem_of_getElem? (i := 37) (by decide +kernel), List.mem_of_getElem? (i := 244) (by decide +kernel), List.mem_of_getElem? (i := 245) (by decide +kernel)⟩
theorem lw_p5 : lw_okq (⟨"TreeHashes$Hasher", "prepareBlock", "(I)V"⟩, 13) := ⟨⟨by decide +kernel, by decide +kernel⟩, List.mem_of_getElem? (i := 37) (by decide +kernel), List.mem_of_getElem? (i := 248) (by decide +kernel), List.mem_of_getElem? (i := 249) (by decide +kernel)⟩
theorem lw_p6 : lw_okq (⟨"TreeHashes$Mix", "fillIn", "()V"⟩, 8) := ⟨⟨by decide +kernel, by decide +kernel⟩, List.mem_of_getElem? (i := 43) (by decide +kernel), List.mem_of_getElem? (i := 260) (by decide +kernel), List.mem_of_getElem? (i := 261) (by decide +kernel)⟩
theorem lw_p7 : lw_okq (⟨"TreeHashes$Mix", "turn", "(IIIIII)V"⟩, 8) := ⟨⟨by decide +kernel, by decide +kernel⟩, List.mem_of_getElem? (i := 43) (by decide +kernel), List.mem_of_getElem? (i := 265) (by decide +kernel), List.mem_of_getElem? (i := 266) (by decide +kernel)⟩
theorem lw_p8 : lw_okq (⟨"TreeHashes$Mix", "reorder", "()V"⟩, 8) := ⟨⟨by decide +kernel, by decide +kernel⟩, List.mem_of_getElem? (i := 43) (by decide +kernel), List.mem_of_getElem? (i := 269) (by decide +kernel), List.mem_of_getElem? (i := 270) (by decide +kernel)⟩
theorem lw_p9 : lw_okq (⟨"TreeHashes$Hasher", "closeBlock", "()V"⟩, 13) := ⟨⟨by decide +kernel, by decide +kernel⟩, List.mem_of_getElem? (i := 37) (by decide +kernel), List.mem_of_getElem? (i := 287) (by decide +kernel), List.mem_of_getElem? (i := 288) (by decide +kernel)⟩
theorem lw_p10 : lw_okq (⟨"TreeHashes$Mix", "outputByte", "(I)I"⟩, 8) := ⟨⟨by decide +kernel, by decide +kernel⟩, List.mem_of_getElem? (i := 43) (by decide +kernel), List.mem_of_getElem? (i := 324) (by decide +kernel), List.mem_of_getElem? (i := 325) (by decide +kernel)⟩
theorem lw_p11 : lw_okq (⟨"TreeHashes", "prepareTree", "(LTreeHashes$Bytes;III)V"⟩, 7) := ⟨⟨by decide +kernel, by decide +kernel⟩, List.mem_of_getElem? (i := 9) (by decide +kernel), List.mem_of_getElem? (i := 373) (by decide +kernel), List.mem_of_getElem? (i := 374) (by decide +kernel)⟩
theorem lw_p12 : lw_okq (⟨"TreeHashes", "climb", "(II)V"⟩, 7) := ⟨⟨by decide +kernel, by decide +kernel⟩, List.mem_of_getElem? (i := 9) (by decide +kernel), List.mem_of_getElem? (i := 426) (by decide +kernel), List.mem_of_getElem? (i := 427) (by decide +kernel)⟩
theorem lw_p13 : lw_okq (⟨"TreeHashesModel", "plain", "(I)V"⟩, 28) := ⟨⟨by decide +kernel, by decide +kernel⟩, List.mem_of_getElem? (i := 440) (by decide +kernel), List.mem_of_getElem? (i := 457) (by decide +kernel), List.mem_of_getElem? (i := 458) (by decide +kernel)⟩
theorem lw_p14 : lw_okq (⟨"TreeHashesModel", "useKey", "(I)V"⟩, 28) := ⟨⟨by decide +kernel, by decide +kernel⟩, List.mem_of_getElem? (i := 440) (by decide +kernel), List.mem_of_getElem? (i := 577) (by decide +kernel), List.mem_of_getElem? (i := 578) (by decide +kernel)⟩
theorem lw_p15 : lw_okq (⟨"TreeHashesModel", "chunk", "([IIIJ)V"⟩, 28) := ⟨⟨by decide +kernel, by decide +kernel⟩, List.mem_of_getElem? (i := 440) (by decide +kernel), List.mem_of_getElem? (i := 581) (by decide +kernel), List.mem_of_getElem? (i := 582) (by decide +kernel)⟩
def lw_privs_1 : List (MethodName × Nat) := [(⟨"TreeHashes$Hasher", "startChunk", "()V"⟩, 13), (⟨"TreeHashes$Hasher", "startBlock", "()V"⟩, 13), (⟨"TreeHashes$Bytes", "wordAt", "(I)I"⟩, 2), (⟨"TreeHashes", "deriveKey", "(LTreeHashes$Bytes;)V"⟩, 7), (⟨"TreeHashes$Hasher", "closeChunk", "()V"⟩, 13), (⟨"TreeHashes$Hasher", "prepareBlock", "(I)V"⟩, 13), (⟨"TreeHashes$Mix", "fillIn", "()V"⟩, 8), (⟨"TreeHashes$Mix", "turn", "(IIIIII)V"⟩, 8), (⟨"TreeHashes$Mix", "reorder", "()V"⟩, 8), (⟨"TreeHashes$Hasher", "closeBlock", "()V"⟩, 13), (⟨"TreeHashes$Mix", "outputByte", "(I)I"⟩, 8), (⟨"TreeHashes", "prepareTree", "(LTreeHashes$Bytes;III)V"⟩, 7), (⟨"TreeHashes", "climb", "(II)V"⟩, 7), (⟨"TreeHashesModel", "plain", "(I)V"⟩, 28), (⟨"TreeHashesModel", "useKey", "(I)V"⟩, 28), (⟨"TreeHashesModel", "chunk", "([IIIJ)V"⟩, 28)]
theorem lw_r1 : ∀ q ∈ lw_privs_1, lw_okq q := List.forall_mem_cons.mpr ⟨lw_p0, List.forall_mem_cons.mpr ⟨lw_p1, List.forall_mem_cons.mpr ⟨lw_p2, List.forall_mem_cons.mpr ⟨lw_p3, List.forall_mem_cons.mpr ⟨lw_p4, List.forall_mem_cons.mpr ⟨lw_p5, List.forall_mem_cons.mpr ⟨lw_p6, List.forall_mem_cons.mpr ⟨lw_p7, List.forall_mem_cons.mpr ⟨lw_p8, List.forall_mem_cons.mpr ⟨lw_p9, List.forall_mem_cons.mpr ⟨lw_p10, List.forall_mem_cons.mpr ⟨lw_p11, List.forall_mem_cons.mpr ⟨lw_p12, List.forall_mem_cons.mpr ⟨lw_p13, List.forall_mem_cons.mpr ⟨lw_p14, List.forall_mem_cons.mpr ⟨lw_p15, fun _ h => absurd h List.not_mem_nil⟩⟩⟩⟩⟩⟩⟩⟩⟩⟩⟩⟩⟩⟩⟩⟩
theorem lw_p16 : lw_okq (⟨"TreeHashesModel", "mixIn", "()V"⟩, 28) := ⟨⟨by decide +kernel, by decide +kernel⟩, List.mem_of_getElem? (i := 440) (by decide +kernel), List.mem_of_getElem? (i := 585) (by decide +kernel), List.mem_of_getElem? (i := 586) (by decide +kernel)⟩
theorem lw_p17 : lw_okq (⟨"TreeHashesModel", "mix", "(JI)V"⟩, 28) := ⟨⟨by decide +kernel, by decide +kernel⟩, List.mem_of_getElem? (i := 440) (by decide +kernel), List.mem_of_getElem? (i := 589) (by decide +kernel), List.mem_of_getElem? (i := 590) (by decide +kernel)⟩
theorem lw_p18 : lw_okq (⟨"TreeHashesModel", "turn", "(IIIII)V"⟩, 28) := ⟨⟨by decide +kernel, by decide +kernel⟩, List.mem_of_getElem? (i := 440) (by decide +kernel), List.mem_of_getElem? (i := 593) (by decide +kernel), List.mem_of_getElem? (i := 594) (by decide +kernel)⟩
theorem lw_p19 : lw_okq (⟨"TreeHashesModel", "rootOf", "(I)V"⟩, 28) := ⟨⟨by decide +kernel, by decide +kernel⟩, List.mem_of_getElem? (i := 440) (by decide +kernel), List.mem_of_getElem? (i := 617) (by decide +kernel), List.mem_of_getElem? (i := 618) (by decide +kernel)⟩
theorem lw_p20 : lw_okq (⟨"TreeHashesModel", "pileOf", "(I)V"⟩, 28) := ⟨⟨by decide +kernel, by decide +kernel⟩, List.mem_of_getElem? (i := 440) (by decide +kernel), List.mem_of_getElem? (i := 621) (by decide +kernel), List.mem_of_getElem? (i := 622) (by decide +kernel)⟩
theorem lw_p21 : lw_okq (⟨"TreeHashesModel", "closedOf", "(I)I"⟩, 28) := ⟨⟨by decide +kernel, by decide +kernel⟩, List.mem_of_getElem? (i := 440) (by decide +kernel), List.mem_of_getElem? (i := 625) (by decide +kernel), List.mem_of_getElem? (i := 626) (by decide +kernel)⟩
theorem lw_p22 : lw_okq (⟨"TreeHashesModel", "beginPile", "()V"⟩, 28) := ⟨⟨by decide +kernel, by decide +kernel⟩, List.mem_of_getElem? (i := 440) (by decide +kernel), List.mem_of_getElem? (i := 629) (by decide +kernel), List.mem_of_getElem? (i := 630) (by decide +kernel)⟩
theorem lw_p23 : lw_okq (⟨"TreeHashesModel", "close", "()V"⟩, 28) := ⟨⟨by decide +kernel, by decide +kernel⟩, List.mem_of_getElem? (i := 440) (by decide +kernel), List.mem_of_getElem? (i := 633) (by decide +kernel), List.mem_of_getElem? (i := 634) (by decide +kernel)⟩
theorem lw_p24 : lw_okq (⟨"TreeHashesModel", "parent", "()V"⟩, 28) := ⟨⟨by decide +kernel, by decide +kernel⟩, List.mem_of_getElem? (i := 440) (by decide +kernel), List.mem_of_getElem? (i := 637) (by decide +kernel), List.mem_of_getElem? (i := 638) (by decide +kernel)⟩
theorem lw_p25 : lw_okq (⟨"TreeHashesModel", "tree", "([IIIII)V"⟩, 28) := ⟨⟨by decide +kernel, by decide +kernel⟩, List.mem_of_getElem? (i := 440) (by decide +kernel), List.mem_of_getElem? (i := 675) (by decide +kernel), List.mem_of_getElem? (i := 676) (by decide +kernel)⟩
def lw_privs_2 : List (MethodName × Nat) := [(⟨"TreeHashesModel", "mixIn", "()V"⟩, 28), (⟨"TreeHashesModel", "mix", "(JI)V"⟩, 28), (⟨"TreeHashesModel", "turn", "(IIIII)V"⟩, 28), (⟨"TreeHashesModel", "rootOf", "(I)V"⟩, 28), (⟨"TreeHashesModel", "pileOf", "(I)V"⟩, 28), (⟨"TreeHashesModel", "closedOf", "(I)I"⟩, 28), (⟨"TreeHashesModel", "beginPile", "()V"⟩, 28), (⟨"TreeHashesModel", "close", "()V"⟩, 28), (⟨"TreeHashesModel", "parent", "()V"⟩, 28), (⟨"TreeHashesModel", "tree", "([IIIII)V"⟩, 28)]
theorem lw_r2 : ∀ q ∈ lw_privs_2, lw_okq q := List.forall_mem_cons.mpr ⟨lw_p16, List.forall_mem_cons.mpr ⟨lw_p17, List.forall_mem_cons.mpr ⟨lw_p18, List.forall_mem_cons.mpr ⟨lw_p19, List.forall_mem_cons.mpr ⟨lw_p20, List.forall_mem_cons.mpr ⟨lw_p21, List.forall_mem_cons.mpr ⟨lw_p22, List.forall_mem_cons.mpr ⟨lw_p23, List.forall_mem_cons.mpr ⟨lw_p24, List.forall_mem_cons.mpr ⟨lw_p25, fun _ h => absurd h List.not_mem_nil⟩⟩⟩⟩⟩⟩⟩⟩⟩⟩
def lw_privs : List (MethodName × Nat) := lw_privs_1 ++ (lw_privs_2)
def lw_tbl : List Cond := k2_sels lw_privs ++ tables_1
theorem lw_privs_ok : ∀ q ∈ lw_privs, lw_okq q := by
  show ∀ q ∈ lw_privs_1 ++ (lw_privs_2), lw_okq q
  exact List.forall_mem_append.mpr ⟨lw_r1, lw_r2⟩

set_option maxRecDepth 20000 in
theorem wl_1 : GoodIn lw_tbl wsL_law_r1 := goodIn_p _ [38, 41] rfl (by decide +kernel)
set_option maxRecDepth 20000 in
theorem wl_2 : GoodIn lw_tbl wsL_law_r2 := goodIn_p _ [49, 53, 66] rfl (by decide +kernel)
set_option maxRecDepth 20000 in
theorem wl_3 : GoodIn lw_tbl wsL_law_r3 := goodIn_p _ [72, 105] rfl (by decide +kernel)
set_option maxRecDepth 20000 in
theorem wl_4 : GoodIn lw_tbl wsL_law_r4 := goodIn_p _ [108, 112, 116, 166, 469] rfl (by decide +kernel)
set_option maxRecDepth 20000 in
theorem wl_5 : GoodIn lw_tbl wsL_law_r5 := goodIn_p _ [] rfl (by decide +kernel)
set_option maxRecDepth 20000 in
theorem wl_6 : GoodIn lw_tbl wsL_law_r6 := goodIn_p _ [485, 206, 209, 213] rfl (by decide +kernel)
set_option maxRecDepth 20000 in
theorem wl_7 : GoodIn lw_tbl wsL_law_r7 := goodIn_p _ [217, 575, 578, 221, 225, 583] rfl (by decide +kernel)
set_option maxRecDepth 20000 in
theorem wl_8 : GoodIn lw_tbl wsL_law_r8 := goodIn_p _ [229, 587, 233, 237, 591, 241] rfl (by decide +kernel)
set_option maxRecDepth 20000 in
theorem wl_9 : GoodIn lw_tbl wsL_law_r9 := goodIn_p _ [244, 250, 254, 259, 263, 268] rfl (by decide +kernel)
set_option maxRecDepth 20000 in
theorem wl_10 : GoodIn lw_tbl wsL_law_r10 := goodIn_p _ [272, 276, 280, 284, 288] rfl (by decide +kernel)
set_option maxRecDepth 20000 in
theorem wl_11 : GoodIn lw_tbl wsL_law_r11 := goodIn_p _ [293, 297, 303, 306, 311] rfl (by decide +kernel)
set_option maxRecDepth 20000 in
theorem wl_12 : GoodIn lw_tbl wsL_law_r12 := goodIn_p _ [315, 319, 323, 595, 598, 601] rfl (by decide +kernel)
set_option maxRecDepth 20000 in
theorem wl_13 : GoodIn lw_tbl wsL_law_r13 := goodIn_p _ [605, 609, 613, 617, 621, 624] rfl (by decide +kernel)
set_option maxRecDepth 20000 in
theorem wl_14 : GoodIn lw_tbl wsL_law_r14 := goodIn_p _ [329, 628, 334, 633, 339] rfl (by decide +kernel)
set_option maxRecDepth 20000 in
theorem wl_15 : GoodIn lw_tbl wsL_law_r15 := goodIn_p _ [344, 352, 637, 641] rfl (by decide +kernel)
set_option maxRecDepth 20000 in
theorem wl_16 : GoodIn lw_tbl wsL_law_r16 := goodIn_p _ [645, 649, 653, 657, 661] rfl (by decide +kernel)
set_option maxRecDepth 20000 in
theorem wl_17 : GoodIn lw_tbl wsL_law_r17 := goodIn_p _ [665, 357, 361, 672, 365, 369] rfl (by decide +kernel)
set_option maxRecDepth 20000 in
theorem wl_18 : GoodIn lw_tbl wsL_law_r18 := goodIn_p _ [676, 373, 377, 680, 381, 684] rfl (by decide +kernel)
set_option maxRecDepth 20000 in
theorem wl_19 : GoodIn lw_tbl wsL_law_r19 := goodIn_p _ [385, 389, 688, 393, 692, 397] rfl (by decide +kernel)
set_option maxRecDepth 20000 in
theorem wl_20 : GoodIn lw_tbl wsL_law_r20 := goodIn_p _ [401, 696, 699, 703, 706, 405, 417] rfl (by decide +kernel)
set_option maxRecDepth 20000 in
theorem wl_21 : GoodIn lw_tbl wsL_law_r21 := goodIn_p _ [408, 411, 414, 421, 426, 429] rfl (by decide +kernel)
set_option maxRecDepth 20000 in
theorem wl_22 : GoodIn lw_tbl wsL_law_r22 := goodIn_p _ [433, 710, 713, 437, 717, 441] rfl (by decide +kernel)
set_option maxRecDepth 20000 in
theorem wl_23 : GoodIn lw_tbl wsL_law_r23 := goodIn_p _ [721, 445, 725, 449, 454, 459] rfl (by decide +kernel)
set_option maxRecDepth 20000 in
theorem wl_24 : GoodIn lw_tbl wsL_law_r24 := goodIn_p _ [463, 729] rfl (by decide +kernel)
set_option maxRecDepth 20000 in
theorem wl_wsX40 : ∀ w ∈ wsX40, w ∈ lw_tbl := by decide +kernel
set_option maxRecDepth 20000 in
theorem wl_wsX50 : ∀ w ∈ wsX50, w ∈ lw_tbl := by decide +kernel
set_option maxRecDepth 20000 in
theorem wl_wsX00 : ∀ w ∈ wsX00, w ∈ lw_tbl := by decide +kernel
set_option maxRecDepth 20000 in
theorem wl_wsX10 : ∀ w ∈ wsX10, w ∈ lw_tbl := by decide +kernel
set_option maxRecDepth 20000 in
theorem wl_wsX30 : ∀ w ∈ wsX30, w ∈ lw_tbl := by decide +kernel
set_option maxRecDepth 20000 in
theorem wl_wsX20 : ∀ w ∈ wsX20, w ∈ lw_tbl := by decide +kernel
theorem wl_r : ∀ w ∈ wsL_law_r1 ++ (wsL_law_r2 ++ (wsL_law_r3 ++ (wsL_law_r4 ++ (wsL_law_r5 ++ (wsL_law_r6 ++ (wsL_law_r7 ++ (wsL_law_r8 ++ (wsL_law_r9 ++ (wsL_law_r10 ++ (wsL_law_r11 ++ (wsL_law_r12 ++ (wsL_law_r13 ++ (wsL_law_r14 ++ (wsL_law_r15 ++ (wsL_law_r16 ++ (wsL_law_r17 ++ (wsL_law_r18 ++ (wsL_law_r19 ++ (wsL_law_r20 ++ (wsL_law_r21 ++ (wsL_law_r22 ++ (wsL_law_r23 ++ (wsL_law_r24))))))))))))))))))))))), w ∈ lw_tbl := by
  intro w h
  simp only [List.mem_append] at h
  rcases h with h | h | h | h | h | h | h | h | h | h | h | h | h | h | h | h | h | h | h | h | h | h | h | h
  · exact (wl_1 w h).1
  · exact (wl_2 w h).1
  · exact (wl_3 w h).1
  · exact (wl_4 w h).1
  · exact (wl_5 w h).1
  · exact (wl_6 w h).1
  · exact (wl_7 w h).1
  · exact (wl_8 w h).1
  · exact (wl_9 w h).1
  · exact (wl_10 w h).1
  · exact (wl_11 w h).1
  · exact (wl_12 w h).1
  · exact (wl_13 w h).1
  · exact (wl_14 w h).1
  · exact (wl_15 w h).1
  · exact (wl_16 w h).1
  · exact (wl_17 w h).1
  · exact (wl_18 w h).1
  · exact (wl_19 w h).1
  · exact (wl_20 w h).1
  · exact (wl_21 w h).1
  · exact (wl_22 w h).1
  · exact (wl_23 w h).1
  · exact (wl_24 w h).1
theorem wsL_law_in : ∀ w ∈ wsL_law, w ∈ lw_tbl := by
  intro w h
  unfold wsL_law at h
  rcases List.mem_append.mp h with h | h
  case inr => exact absurd h List.not_mem_nil
  rcases List.mem_append.mp h with h | h
  case inr => exact wl_wsX20 w h
  rcases List.mem_append.mp h with h | h
  case inr => exact wl_wsX30 w h
  rcases List.mem_append.mp h with h | h
  case inr => exact wl_wsX10 w h
  rcases List.mem_append.mp h with h | h
  case inr => exact wl_wsX00 w h
  rcases List.mem_append.mp h with h | h
  case inr => exact wl_wsX50 w h
  rcases List.mem_append.mp h with h | h
  case inr => exact wl_wsX40 w h
  exact wl_r w h
