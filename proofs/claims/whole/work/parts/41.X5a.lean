set_option maxHeartbeats 4000000 in
set_option maxRecDepth 100000 in
theorem c_X5_isRegister (l : Launch) (D : va_G) (cy : Nat → ClassId) (t : Nat × Nat) (ri : Nat) (hri : ri < 8) (sz : Nat) : Met l yX5_isRegister wsX5_isRegister ({ frames := 0, cells := 0, slots := 0, locals := 0 }) (PcW D cy t [] [.int (nI (ri))] sz) (QiA D cy (fun (r : Int32) (u : Unit) => (r = nI (1))) (fun u : Unit => []) (va_A [] sz)) 0 0 (va_A [] sz) := by
  refine M_ofW (cc := cX5_isRegister) (maxL := 1) (ret := (some .boolean)) (by decide) rfl (Nat.le_of_ble_eq_true rfl) ?_
  intro p e s m below meth c A ls args Q hQ S0 hr hlocks hnm hK hst hA hW hl
  have hx := S0.1; have hb := S0.2.1; have hml := S0.2.2.1; have hown := S0.2.2.2.1; have hts := S0.2.2.2.2
  have hl : lv_has ls 1 [(0, .int (nI (ri)))] := hl
  refine lv_iload_n hx hb dX5_isRegister_0 rfl (lv_at hl 0 rfl) ?_
  refine zLt (a := ri) (tgt := 14) hx hb dX5_isRegister_1 (by decide) (by omega) ?_
  refine lv_iload_n hx hb dX5_isRegister_4 rfl (lv_at hl 0 rfl) ?_
  refine lv_bipush (v := nI (8)) hx hb dX5_isRegister_5 (by decide) ?_
  refine iGe (a := ri) (b := 8) (tgt := 14) hx hb dX5_isRegister_7 (by decide) (by omega) (by omega) (fun h7 => ?_) (fun h7 => ?_)
  · skip
    exfalso; omega
  · skip
    refine lv_iconst (v := nI (1)) hx hb dX5_isRegister_10 (by decide) ?_
    refine lv_goto (tgt := 15) hx hb dX5_isRegister_11 (by decide) ?_
    exact eZ hQ hx hb hr hlocks hK hW () (rfl) (rfl) (by decide) dX5_isRegister_15

set_option maxHeartbeats 4000000 in
set_option maxRecDepth 100000 in
theorem c_X5_isRegister_b (l : Launch) (D : va_G) (cy : Nat → ClassId) (t : Nat × Nat) (x : Int32) (hbd : x < 0 ∨ nI 8 ≤ x) (sz : Nat) : Met l yX5_isRegister wsX5_isRegister ({ frames := 0, cells := 0, slots := 0, locals := 0 }) (PcW D cy t [] [.int (x)] sz) (QiA D cy (fun (r : Int32) (u : Unit) => (r = nI (0))) (fun u : Unit => []) (va_A [] sz)) 0 0 (va_A [] sz) := by
  refine M_ofW (cc := cX5_isRegister) (maxL := 1) (ret := (some .boolean)) (by decide) rfl (Nat.le_of_ble_eq_true rfl) ?_
  intro p e s m below meth c A ls args Q hQ S0 hr hlocks hnm hK hst hA hW hl
  have hx := S0.1; have hb := S0.2.1; have hml := S0.2.2.1; have hown := S0.2.2.2.1; have hts := S0.2.2.2.2
  have hl : lv_has ls 1 [(0, .int (x))] := hl
  refine lv_iload_n hx hb dX5_isRegister_0 rfl (lv_at hl 0 rfl) ?_
  refine lv_if_lt (tgt := 14) hx hb dX5_isRegister_1 (by decide) (fun h1 => ?_) (fun h1 => ?_)
  · skip
    refine lv_iconst (v := nI (0)) hx hb dX5_isRegister_14 (by decide) ?_
    exact eZ hQ hx hb hr hlocks hK hW () (rfl) (rfl) (by decide) dX5_isRegister_15
  · skip
    refine lv_iload_n hx hb dX5_isRegister_4 rfl (lv_at hl 0 rfl) ?_
    refine lv_bipush (v := nI (8)) hx hb dX5_isRegister_5 (by decide) ?_
    refine lv_icmp_ge (tgt := 14) hx hb dX5_isRegister_7 (by decide) (fun h7 => ?_) (fun h7 => ?_)
    · skip
      refine lv_iconst (v := nI (0)) hx hb dX5_isRegister_14 (by decide) ?_
      exact eZ hQ hx hb hr hlocks hK hW () (rfl) (rfl) (by decide) dX5_isRegister_15
    · skip
      exact hbd.elim (fun q => absurd q h1) (fun q => absurd q h7)

set_option maxHeartbeats 4000000 in
set_option maxRecDepth 100000 in
theorem c_X5_isHasher (l : Launch) (D : va_G) (cy : Nat → ClassId) (t : Nat × Nat) (ri : Nat) (hri : ri < 4) (sz : Nat) : Met l yX5_isHasher wsX5_isHasher ({ frames := 0, cells := 0, slots := 0, locals := 0 }) (PcW D cy t [] [.int (nI (ri))] sz) (QiA D cy (fun (r : Int32) (u : Unit) => (r = nI (1))) (fun u : Unit => []) (va_A [] sz)) 0 0 (va_A [] sz) := by
  refine M_ofW (cc := cX5_isHasher) (maxL := 1) (ret := (some .boolean)) (by decide) rfl (Nat.le_of_ble_eq_true rfl) ?_
  intro p e s m below meth c A ls args Q hQ S0 hr hlocks hnm hK hst hA hW hl
  have hx := S0.1; have hb := S0.2.1; have hml := S0.2.2.1; have hown := S0.2.2.2.1; have hts := S0.2.2.2.2
  have hl : lv_has ls 1 [(0, .int (nI (ri)))] := hl
  refine lv_iload_n hx hb dX5_isHasher_0 rfl (lv_at hl 0 rfl) ?_
  refine zLt (a := ri) (tgt := 13) hx hb dX5_isHasher_1 (by decide) (by omega) ?_
  refine lv_iload_n hx hb dX5_isHasher_4 rfl (lv_at hl 0 rfl) ?_
  refine lv_iconst (v := nI (4)) hx hb dX5_isHasher_5 (by decide) ?_
  refine iGe (a := ri) (b := 4) (tgt := 13) hx hb dX5_isHasher_6 (by decide) (by omega) (by omega) (fun h6 => ?_) (fun h6 => ?_)
  · skip
    exfalso; omega
  · skip
    refine lv_iconst (v := nI (1)) hx hb dX5_isHasher_9 (by decide) ?_
    refine lv_goto (tgt := 14) hx hb dX5_isHasher_10 (by decide) ?_
    exact eZ hQ hx hb hr hlocks hK hW () (rfl) (rfl) (by decide) dX5_isHasher_14

set_option maxHeartbeats 4000000 in
set_option maxRecDepth 100000 in
theorem c_X5_isHasher_b (l : Launch) (D : va_G) (cy : Nat → ClassId) (t : Nat × Nat) (x : Int32) (hbd : x < 0 ∨ nI 4 ≤ x) (sz : Nat) : Met l yX5_isHasher wsX5_isHasher ({ frames := 0, cells := 0, slots := 0, locals := 0 }) (PcW D cy t [] [.int (x)] sz) (QiA D cy (fun (r : Int32) (u : Unit) => (r = nI (0))) (fun u : Unit => []) (va_A [] sz)) 0 0 (va_A [] sz) := by
  refine M_ofW (cc := cX5_isHasher) (maxL := 1) (ret := (some .boolean)) (by decide) rfl (Nat.le_of_ble_eq_true rfl) ?_
  intro p e s m below meth c A ls args Q hQ S0 hr hlocks hnm hK hst hA hW hl
  have hx := S0.1; have hb := S0.2.1; have hml := S0.2.2.1; have hown := S0.2.2.2.1; have hts := S0.2.2.2.2
  have hl : lv_has ls 1 [(0, .int (x))] := hl
  refine lv_iload_n hx hb dX5_isHasher_0 rfl (lv_at hl 0 rfl) ?_
  refine lv_if_lt (tgt := 13) hx hb dX5_isHasher_1 (by decide) (fun h1 => ?_) (fun h1 => ?_)
  · skip
    refine lv_iconst (v := nI (0)) hx hb dX5_isHasher_13 (by decide) ?_
    exact eZ hQ hx hb hr hlocks hK hW () (rfl) (rfl) (by decide) dX5_isHasher_14
  · skip
    refine lv_iload_n hx hb dX5_isHasher_4 rfl (lv_at hl 0 rfl) ?_
    refine lv_iconst (v := nI (4)) hx hb dX5_isHasher_5 (by decide) ?_
    refine lv_icmp_ge (tgt := 13) hx hb dX5_isHasher_6 (by decide) (fun h6 => ?_) (fun h6 => ?_)
    · skip
      refine lv_iconst (v := nI (0)) hx hb dX5_isHasher_13 (by decide) ?_
      exact eZ hQ hx hb hr hlocks hK hW () (rfl) (rfl) (by decide) dX5_isHasher_14
    · skip
      exact hbd.elim (fun q => absurd q h1) (fun q => absurd q h6)

set_option maxHeartbeats 4000000 in
set_option maxRecDepth 100000 in
theorem c_X5_chunksOf (l : Launch) (D : va_G) (cy : Nat → ClassId) (t : Nat × Nat) (n : Nat) (hn : n ≤ 1000000) (sz : Nat) : Met l yX5_chunksOf wsX5_chunksOf ({ frames := 0, cells := 0, slots := 0, locals := 0 }) (PcW D cy t [] [.int (nI (n))] sz) (QiA D cy (fun (r : Int32) (u : Unit) => (r = nI (chks n))) (fun u : Unit => []) (va_A [] sz)) 0 0 (va_A [] sz) := by
  refine M_ofW (cc := cX5_chunksOf) (maxL := 1) (ret := (some .int)) (by decide) rfl (Nat.le_of_ble_eq_true rfl) ?_
  intro p e s m below meth c A ls args Q hQ S0 hr hlocks hnm hK hst hA hW hl
  have hx := S0.1; have hb := S0.2.1; have hml := S0.2.2.1; have hown := S0.2.2.2.1; have hts := S0.2.2.2.2
  have hl : lv_has ls 1 [(0, .int (nI (n)))] := hl
  refine lv_iload_n hx hb dX5_chunksOf_0 rfl (lv_at hl 0 rfl) ?_
  refine zNe (a := n) (tgt := 8) hx hb dX5_chunksOf_1 (by decide) (by omega) (fun h1 => ?_) (fun h1 => ?_)
  · skip
    refine lv_iload_n hx hb dX5_chunksOf_8 rfl (lv_at hl 0 rfl) ?_
    refine lv_sipush (v := nI (1023)) hx hb dX5_chunksOf_9 (by decide) ?_
    refine lv_iadd hx hb dX5_chunksOf_12 ?_
    refine tI (nI_add _ _) ?_
    refine lv_sipush (v := nI (1024)) hx hb dX5_chunksOf_13 (by decide) ?_
    refine lv_idiv hx hb dX5_chunksOf_16 (by decide) ?_
    refine tI (pk_div (by omega) (by omega) (by omega)) ?_
    exact eI hQ hx hb hr hlocks hK hW () (by rw [chks_s h1, show (n + 1023) / 1024 = (n - 1) / 1024 + 1 from by omega]) (rfl) dX5_chunksOf_17
  · skip
    refine lv_iconst (v := nI (1)) hx hb dX5_chunksOf_4 (by decide) ?_
    refine lv_goto (tgt := 17) hx hb dX5_chunksOf_5 (by decide) ?_
    exact eI hQ hx hb hr hlocks hK hW () (by rw [chks_0 h1]) (rfl) dX5_chunksOf_17

set_option maxHeartbeats 4000000 in
set_option maxRecDepth 100000 in
theorem c_X5_chunkSize (l : Launch) (D : va_G) (cy : Nat → ClassId) (t : Nat × Nat) (n : Nat) (c0 : Nat) (hn : n ≤ 1000000) (hc0 : c0 * 1024 ≤ n) (sz : Nat) : Met l yX5_chunkSize wsX5_chunkSize ({ frames := 0, cells := 0, slots := 0, locals := 0 }) (PcW D cy t [] [.int (nI (n)), .int (nI (c0))] sz) (QiA D cy (fun (r : Int32) (u : Unit) => (r = nI (cln n c0))) (fun u : Unit => []) (va_A [] sz)) 0 0 (va_A [] sz) := by
  refine M_ofW (cc := cX5_chunkSize) (maxL := 2) (ret := (some .int)) (by decide) rfl (Nat.le_of_ble_eq_true rfl) ?_
  intro p e s m below meth c A ls args Q hQ S0 hr hlocks hnm hK hst hA hW hl
  have hx := S0.1; have hb := S0.2.1; have hml := S0.2.2.1; have hown := S0.2.2.2.1; have hts := S0.2.2.2.2
  have hl : lv_has ls 2 [(0, .int (nI (n))), (1, .int (nI (c0)))] := hl
  refine lv_iload_n hx hb dX5_chunkSize_0 rfl (lv_at hl 0 rfl) ?_
  refine lv_sipush (v := nI (1024)) hx hb dX5_chunkSize_1 (by decide) ?_
  refine lv_iload_n hx hb dX5_chunkSize_4 rfl (lv_at hl 1 rfl) ?_
  refine lv_imul hx hb dX5_chunkSize_5 ?_
  refine tI (pk_mul _ _) ?_
  refine lv_isub hx hb dX5_chunkSize_6 ?_
  refine tI (pk_sub (by omega)) ?_
  refine lv_sipush (v := nI (1024)) hx hb dX5_chunkSize_7 (by decide) ?_
  refine iGe (a := n - (1024 * c0)) (b := 1024) (tgt := 23) hx hb dX5_chunkSize_10 (by decide) (by omega) (by omega) (fun h10 => ?_) (fun h10 => ?_)
  · skip
    refine lv_sipush (v := nI (1024)) hx hb dX5_chunkSize_23 (by decide) ?_
    exact eI hQ hx hb hr hlocks hK hW () (by rw [show cln n c0 = 1024 from if_neg (by omega)]) (rfl) dX5_chunkSize_26
  · skip
    refine lv_iload_n hx hb dX5_chunkSize_13 rfl (lv_at hl 0 rfl) ?_
    refine lv_sipush (v := nI (1024)) hx hb dX5_chunkSize_14 (by decide) ?_
    refine lv_iload_n hx hb dX5_chunkSize_17 rfl (lv_at hl 1 rfl) ?_
    refine lv_imul hx hb dX5_chunkSize_18 ?_
    refine tI (pk_mul _ _) ?_
    refine lv_isub hx hb dX5_chunkSize_19 ?_
    refine tI (pk_sub (by omega)) ?_
    refine lv_goto (tgt := 26) hx hb dX5_chunkSize_20 (by decide) ?_
    exact eI hQ hx hb hr hlocks hK hW () (by rw [show cln n c0 = n - c0 * 1024 from if_pos (by omega), Nat.mul_comm]) (rfl) dX5_chunkSize_26

set_option maxHeartbeats 4000000 in
set_option maxRecDepth 100000 in
theorem c_X5_leftOf (l : Launch) (D : va_G) (cy : Nat → ClassId) (t : Nat × Nat) (n : Nat) (hn : n ≤ 1024) (sz : Nat) : Met l yX5_leftOf wsX5_leftOf ({ frames := 0, cells := 0, slots := 0, locals := 0 }) (PcW D cy t [] [.int (nI (n))] sz) (QiA D cy (fun (r : Int32) (u : Unit) => (r = nI (lft n))) (fun u : Unit => []) (va_A [] sz)) 0 0 (va_A [] sz) := by
  refine M_ofW (cc := cX5_leftOf) (maxL := 2) (ret := (some .int)) (by decide) rfl (Nat.le_of_ble_eq_true rfl) ?_
  intro p e s m below meth c A ls args Q hQ S0 hr hlocks hnm hK hst hA hW hl
  have hx := S0.1; have hb := S0.2.1; have hml := S0.2.2.1; have hown := S0.2.2.2.1; have hts := S0.2.2.2.2
  have hl : lv_has ls 2 [(0, .int (nI (n)))] := hl
  refine lv_iconst (v := nI (1)) hx hb dX5_leftOf_0 (by decide) ?_
  refine lv_istore_n (lv' := [(1, .int (nI (1))), (0, .int (nI (n)))]) hx hb dX5_leftOf_1 rfl hl (by decide) rfl (fun ls hl => ?_)
  have loop2 : ∀ (nF : Nat) (a : Nat), 11 - a < nF → (a ≤ 10) → (a = 0 ∨ 2 ^ a < n) → ∀ (H : Heap) (locs : List Loc), Wd D A s [] H locs → ∀ ls : Array Slot, lv_has ls 2 [(0, .int (nI (n))), (1, .int (nI (2 ^ a)))] → W p l e ({ frames := 0, cells := 0, slots := 0, locals := 0 }) s m args below meth c H locs 0 0 Q (F0 m 2 ls []) := by
    intro nF
    induction nF with
    | zero => intro a hf; exact absurd hf (Nat.not_lt_zero _)
    | succ nF ih2 =>
      intro a hf ha1 ha2 H locs hW ls hl
      have hp : 2 ^ a ≤ 1024 := Nat.le_trans (Nat.pow_le_pow_right (by decide) ha1) (by decide)
      refine lv_iconst (v := nI (2)) hx hb dX5_leftOf_2 (by decide) ?_
      refine lv_iload_n hx hb dX5_leftOf_3 rfl (lv_at hl 1 rfl) ?_
      refine lv_imul hx hb dX5_leftOf_4 ?_
      refine tI (pk_mul _ _) ?_
      refine lv_iload_n hx hb dX5_leftOf_5 rfl (lv_at hl 0 rfl) ?_
      refine iGe (a := 2 * (2 ^ a)) (b := n) (tgt := 16) hx hb dX5_leftOf_6 (by decide) (by omega) (by omega) (fun h6 => ?_) (fun h6 => ?_)
      · skip
        have e8 : lft n = 2 ^ a := lft_is (by omega) ha2
        refine lv_iload_n hx hb dX5_leftOf_16 rfl (lv_at hl 1 rfl) ?_
        exact eI hQ hx hb hr hlocks hK hW () (by rw [e8]) (rfl) dX5_leftOf_17
      · skip
        have ha3 : a < 10 := by rcases Nat.lt_or_ge a 10 with q | q; (exact q); (have := Nat.pow_le_pow_right (n := 2) (by decide) q; omega)
        refine lv_iload_n hx hb dX5_leftOf_9 rfl (lv_at hl 1 rfl) ?_
        refine lv_iconst (v := nI (2)) hx hb dX5_leftOf_10 (by decide) ?_
        refine lv_imul hx hb dX5_leftOf_11 ?_
        refine tI (pk_mul _ _) ?_
        refine tI (x' := nI (2 ^ (a + 1))) (rfl) ?_
        refine lv_istore_n (lv' := [(1, .int (nI (2 ^ (a + 1)))), (0, .int (nI (n)))]) hx hb dX5_leftOf_12 rfl hl (by decide) rfl (fun ls hl => ?_)
        refine lv_goto (tgt := 2) hx hb dX5_leftOf_13 (by decide) ?_
        exact ih2 (a + 1) (by omega) (by omega) (Or.inr (by rw [Nat.pow_succ]; omega)) _ _ hW _ (lv_sub hl [1, 0] rfl)
  exact loop2 _ 0 (Nat.lt_succ_self _) (by omega) (Or.inl rfl) _ _ hW _ (lv_sub hl [1, 0] rfl)

set_option maxHeartbeats 4000000 in
set_option maxRecDepth 100000 in
theorem c_X5_wordAt (l : Launch) (D : va_G) (cy : Nat → ClassId) (t : Nat × Nat) (fa : Nat) (fl0 : Nat) (fx : Nat → Int32) (i : Nat) (hn : fl0 < 2 ^ 31) (hi : i + 4 ≤ fl0) (sz : Nat) : Met l yX5_wordAt wsX5_wordAt ({ frames := 0, cells := 0, slots := 0, locals := 0 }) (PcW D cy t [(fa, .inl (cy 0, fl0, .inl (fx)))] [.ref fa, .int (nI (i))] sz) (QiA D cy (fun (r : Int32) (u : Unit) => (r = wrd fx i)) (fun u : Unit => [(fa, .inl (cy 0, fl0, .inl (fx)))]) (va_A [(fa, .inl (cy 0, fl0, .inl (fx)))] sz)) 0 0 (va_A [(fa, .inl (cy 0, fl0, .inl (fx)))] sz) := by
  refine M_ofW (cc := cX5_wordAt) (maxL := 2) (ret := (some .int)) (by decide) rfl (Nat.le_of_ble_eq_true rfl) ?_
  intro p e s m below meth c A ls args Q hQ S0 hr hlocks hnm hK hst hA hW hl
  have hx := S0.1; have hb := S0.2.1; have hml := S0.2.2.1; have hown := S0.2.2.2.1; have hts := S0.2.2.2.2
  have hl : lv_has ls 2 [(0, .ref fa), (1, .int (nI (i)))] := hl
  refine lv_aload_n hx hb dX5_wordAt_0 rfl (lv_at hl 0 rfl) ?_
  refine lv_iload_n hx hb dX5_wordAt_1 rfl (lv_at hl 1 rfl) ?_
  refine rI hx hb hK hW 0 rfl (k := i) (by omega) (by omega) dX5_wordAt_2 ?_
  refine lv_aload_n hx hb dX5_wordAt_3 rfl (lv_at hl 0 rfl) ?_
  refine lv_iload_n hx hb dX5_wordAt_4 rfl (lv_at hl 1 rfl) ?_
  refine lv_iconst (v := nI (1)) hx hb dX5_wordAt_5 (by decide) ?_
  refine lv_iadd hx hb dX5_wordAt_6 ?_
  refine tI (nI_add _ _) ?_
  refine rI hx hb hK hW 0 rfl (k := i + 1) (by omega) (by omega) dX5_wordAt_7 ?_
  refine lv_bipush (v := nI (8)) hx hb dX5_wordAt_8 (by decide) ?_
  refine lv_ishl hx hb dX5_wordAt_10 ?_
  refine lv_ior hx hb dX5_wordAt_11 ?_
  refine lv_aload_n hx hb dX5_wordAt_12 rfl (lv_at hl 0 rfl) ?_
  refine lv_iload_n hx hb dX5_wordAt_13 rfl (lv_at hl 1 rfl) ?_
  refine lv_iconst (v := nI (2)) hx hb dX5_wordAt_14 (by decide) ?_
  refine lv_iadd hx hb dX5_wordAt_15 ?_
  refine tI (nI_add _ _) ?_
  refine rI hx hb hK hW 0 rfl (k := i + 2) (by omega) (by omega) dX5_wordAt_16 ?_
  refine lv_bipush (v := nI (16)) hx hb dX5_wordAt_17 (by decide) ?_
  refine lv_ishl hx hb dX5_wordAt_19 ?_
  refine lv_ior hx hb dX5_wordAt_20 ?_
  refine lv_aload_n hx hb dX5_wordAt_21 rfl (lv_at hl 0 rfl) ?_
  refine lv_iload_n hx hb dX5_wordAt_22 rfl (lv_at hl 1 rfl) ?_
  refine lv_iconst (v := nI (3)) hx hb dX5_wordAt_23 (by decide) ?_
  refine lv_iadd hx hb dX5_wordAt_24 ?_
  refine tI (nI_add _ _) ?_
  refine rI hx hb hK hW 0 rfl (k := i + 3) (by omega) (by omega) dX5_wordAt_25 ?_
  refine lv_bipush (v := nI (24)) hx hb dX5_wordAt_26 (by decide) ?_
  refine lv_ishl hx hb dX5_wordAt_28 ?_
  refine lv_ior hx hb dX5_wordAt_29 ?_
  exact eI hQ hx hb hr hlocks hK hW () (rfl) (rfl) dX5_wordAt_30

set_option maxHeartbeats 4000000 in
set_option maxRecDepth 100000 in
theorem c_X5_in (l : Launch) (D : va_G) (cy : Nat → ClassId) (t : Nat × Nat) (pl : Nat) (hpl : pl ≤ 2 ^ 62) (sz : Nat) : Met l yX5_in wsX5_in ({ frames := 0, cells := 0, slots := 0, locals := 0 }) (PcW D cy t [] [.long (lN pl), .long (lN 0), .long ((4611686018427387904 : Int64))] sz) (QiA D cy (fun (r : Int32) (u : Unit) => (r = nI (1))) (fun u : Unit => []) (va_A [] sz)) 0 0 (va_A [] sz) := by
  refine M_ofW (cc := cX5_in) (maxL := 6) (ret := (some .boolean)) (by decide) rfl (Nat.le_of_ble_eq_true rfl) ?_
  intro p e s m below meth c A ls args Q hQ S0 hr hlocks hnm hK hst hA hW hl
  have hx := S0.1; have hb := S0.2.1; have hml := S0.2.2.1; have hown := S0.2.2.2.1; have hts := S0.2.2.2.2
  have hl : lv_has ls 6 [(0, .long (lN pl)), (2, .long (lN 0)), (4, .long ((4611686018427387904 : Int64)))] := hl
  refine lv_lload_n hx hb dX5_in_0 rfl (lv_at hl 0 rfl) ?_
  refine lv_lload_n hx hb dX5_in_1 rfl (lv_at hl 1 rfl) ?_
  refine W.lcmp hx hb dX5_in_2 ?_
  refine lv_if_lt (tgt := 17) hx hb dX5_in_3 (by decide) (fun h3 => ?_) (fun h3 => ?_)
  · skip
    exact absurd ((lg_cmp_lt _ _).mp h3) (fun q => Nat.not_lt_zero _ ((pk_lLT (by omega) (by decide)).mp q))
  · skip
    refine lv_lload_n hx hb dX5_in_6 rfl (lv_at hl 0 rfl) ?_
    refine lv_lload hx hb dX5_in_7 (lv_at hl 2 rfl) ?_
    refine W.lcmp hx hb dX5_in_9 ?_
    refine lv_if_gt (tgt := 17) hx hb dX5_in_10 (by decide) (fun h10 => ?_) (fun h10 => ?_)
    · skip
      exact absurd ((lg_cmp_gt _ _).mp h10) (Int64.not_lt.mpr (show lN pl ≤ lN 4611686018427387904 from (pk_lLE (by omega) (by decide)).mpr (by omega)))
    · skip
      refine lv_iconst (v := nI (1)) hx hb dX5_in_13 (by decide) ?_
      refine lv_goto (tgt := 18) hx hb dX5_in_14 (by decide) ?_
      exact eZ hQ hx hb hr hlocks hK hW () (rfl) (rfl) (by decide) dX5_in_18

set_option maxHeartbeats 4000000 in
set_option maxRecDepth 100000 in
theorem c_X5_in_b (l : Launch) (D : va_G) (cy : Nat → ClassId) (t : Nat × Nat) (w0 : Int64) (hbp : w0 < lN 0 ∨ (4611686018427387904 : Int64) < w0) (sz : Nat) : Met l yX5_in wsX5_in ({ frames := 0, cells := 0, slots := 0, locals := 0 }) (PcW D cy t [] [.long (w0), .long (lN 0), .long ((4611686018427387904 : Int64))] sz) (QiA D cy (fun (r : Int32) (u : Unit) => (r = nI (0))) (fun u : Unit => []) (va_A [] sz)) 0 0 (va_A [] sz) := by
  refine M_ofW (cc := cX5_in) (maxL := 6) (ret := (some .boolean)) (by decide) rfl (Nat.le_of_ble_eq_true rfl) ?_
  intro p e s m below meth c A ls args Q hQ S0 hr hlocks hnm hK hst hA hW hl
  have hx := S0.1; have hb := S0.2.1; have hml := S0.2.2.1; have hown := S0.2.2.2.1; have hts := S0.2.2.2.2
  have hl : lv_has ls 6 [(0, .long (w0)), (2, .long (lN 0)), (4, .long ((4611686018427387904 : Int64)))] := hl
  refine lv_lload_n hx hb dX5_in_0 rfl (lv_at hl 0 rfl) ?_
  refine lv_lload_n hx hb dX5_in_1 rfl (lv_at hl 1 rfl) ?_
  refine W.lcmp hx hb dX5_in_2 ?_
  refine lv_if_lt (tgt := 17) hx hb dX5_in_3 (by decide) (fun h3 => ?_) (fun h3 => ?_)
  · skip
    refine lv_iconst (v := nI (0)) hx hb dX5_in_17 (by decide) ?_
    exact eZ hQ hx hb hr hlocks hK hW () (rfl) (rfl) (by decide) dX5_in_18
  · skip
    refine lv_lload_n hx hb dX5_in_6 rfl (lv_at hl 0 rfl) ?_
    refine lv_lload hx hb dX5_in_7 (lv_at hl 2 rfl) ?_
    refine W.lcmp hx hb dX5_in_9 ?_
    refine lv_if_gt (tgt := 17) hx hb dX5_in_10 (by decide) (fun h10 => ?_) (fun h10 => ?_)
    · skip
      refine lv_iconst (v := nI (0)) hx hb dX5_in_17 (by decide) ?_
      exact eZ hQ hx hb hr hlocks hK hW () (rfl) (rfl) (by decide) dX5_in_18
    · skip
      exact hbp.elim (fun q => absurd ((lg_cmp_lt _ _).mpr q) h3) (fun q => absurd ((lg_cmp_gt _ _).mpr q) h10)

set_option maxHeartbeats 4000000 in
set_option maxRecDepth 100000 in
theorem c_X5_turned (l : Launch) (D : va_G) (cy : Nat → ClassId) (t : Nat × Nat) (x : Int32) (k : Nat) (hk : k ≤ 32) (sz : Nat) : Met l yX5_turned wsX5_turned ({ frames := 0, cells := 0, slots := 0, locals := 0 }) (PcW D cy t [] [.int (x), .int (nI (k))] sz) (QiA D cy (fun (r : Int32) (u : Unit) => (r = rot x k)) (fun u : Unit => []) (va_A [] sz)) 0 0 (va_A [] sz) := by
  refine M_ofW (cc := cX5_turned) (maxL := 2) (ret := (some .int)) (by decide) rfl (Nat.le_of_ble_eq_true rfl) ?_
  intro p e s m below meth c A ls args Q hQ S0 hr hlocks hnm hK hst hA hW hl
  have hx := S0.1; have hb := S0.2.1; have hml := S0.2.2.1; have hown := S0.2.2.2.1; have hts := S0.2.2.2.2
  have hl : lv_has ls 2 [(0, .int (x)), (1, .int (nI (k)))] := hl
  refine lv_iload_n hx hb dX5_turned_0 rfl (lv_at hl 0 rfl) ?_
  refine lv_iload_n hx hb dX5_turned_1 rfl (lv_at hl 1 rfl) ?_
  refine lv_iushr hx hb dX5_turned_2 rfl ?_
  refine lv_iload_n hx hb dX5_turned_3 rfl (lv_at hl 0 rfl) ?_
  refine lv_bipush (v := nI (32)) hx hb dX5_turned_4 (by decide) ?_
  refine lv_iload_n hx hb dX5_turned_6 rfl (lv_at hl 1 rfl) ?_
  refine lv_isub hx hb dX5_turned_7 ?_
  refine tI (pk_sub (by omega)) ?_
  refine lv_ishl hx hb dX5_turned_8 ?_
  refine lv_ior hx hb dX5_turned_9 ?_
  exact eI hQ hx hb hr hlocks hK hW () (rfl) (rfl) dX5_turned_10

theorem f_X5_turn_0 : Cond.fieldLink RX5 53 "TreeHashesModel" "v" "[I" ∈ wsX5_turn := by decide +kernel
theorem i_X5_turn_X5 : ∀ w ∈ wsX50, w ∈ wsX5_turn := by decide +kernel
theorem f_X5_turn_2 : Cond.fieldLink RX5 56 "TreeHashesModel" "w" "[I" ∈ wsX5_turn := by decide +kernel
set_option maxHeartbeats 4000000 in
set_option maxRecDepth 100000 in
theorem c_X5_turn (l : Launch) (D : va_G) (cy : Nat → ClassId) (t : Nat × Nat) (z0 : Nat) (zr : Nat) (zs : Nat) (zt : Nat) (zc : Nat) (zm : Nat) (zk : Nat) (zh : Nat) (zd : Nat) (zf : Nat) (ml : Nat) (zp : Nat) (mps : Nat) (za : Nat) (ze : Nat) (be : Int32) (zn : Nat) (zb : Nat) (zv : Nat) (zw : Nat) (zo : Nat) (zq : Nat) (nu : Int64) (bq : Int32) (fg : Int32) (zl : Nat) (hg : Nat) (cz : Nat) (zi : Nat) (vv : Nat → Int32) (ww : Nat → Int32) (ia : Nat) (ib : Nat) (ic : Nat) (id : Nat) (ix : Nat) (ha : ia < 16) (hb0 : ib < 16) (hc : ic < 16) (hd : id < 16) (hx0 : ix + 1 < 16) (hab : ia ≠ ib) (hac : ia ≠ ic) (had : ia ≠ id) (hbc : ib ≠ ic) (hbd : ib ≠ id) (hcd : ic ≠ id) (sz : Nat) : Met l yX5_turn wsX5_turn ({ frames := 1, cells := 0, slots := 0, locals := 21 }) (PcW D cy t [(z0, .inr (5, [.ref zr, .ref zs, .ref zt, .ref zc, .ref zm, .ref zk, .ref zh, .ref zd, .ref zf, .int (nI (ml)), .ref zp, .int (nI (mps)), .ref za, .ref ze, .int (be), .ref zn, .ref zb, .ref zv, .ref zw, .ref zo, .ref zq, .long (nu), .int (bq), .int (fg), .ref zl, .int (nI (hg)), .int (nI (cz)), .ref zi])), (zv, .inl (cy 0, 16, .inl (vv))), (zw, .inl (cy 0, 16, .inl (ww)))] [.ref z0, .int (nI (ia)), .int (nI (ib)), .int (nI (ic)), .int (nI (id)), .int (nI (ix))] sz) (QvA D cy (fun u : Unit => True) (fun u : Unit => [(z0, .inr (5, [.ref zr, .ref zs, .ref zt, .ref zc, .ref zm, .ref zk, .ref zh, .ref zd, .ref zf, .int (nI (ml)), .ref zp, .int (nI (mps)), .ref za, .ref ze, .int (be), .ref zn, .ref zb, .ref zv, .ref zw, .ref zo, .ref zq, .long (nu), .int (bq), .int (fg), .ref zl, .int (nI (hg)), .int (nI (cz)), .ref zi])), (zv, .inl (cy 0, 16, .inl (tn vv ia ib ic id (ww ix) (ww (ix + 1))))), (zw, .inl (cy 0, 16, .inl (ww)))]) (va_A [(z0, .inr (5, [.ref zr, .ref zs, .ref zt, .ref zc, .ref zm, .ref zk, .ref zh, .ref zd, .ref zf, .int (nI (ml)), .ref zp, .int (nI (mps)), .ref za, .ref ze, .int (be), .ref zn, .ref zb, .ref zv, .ref zw, .ref zo, .ref zq, .long (nu), .int (bq), .int (fg), .ref zl, .int (nI (hg)), .int (nI (cz)), .ref zi])), (zv, .inl (cy 0, 16, .inl (vv))), (zw, .inl (cy 0, 16, .inl (ww)))] sz)) 0 0 (va_A [(z0, .inr (5, [.ref zr, .ref zs, .ref zt, .ref zc, .ref zm, .ref zk, .ref zh, .ref zd, .ref zf, .int (nI (ml)), .ref zp, .int (nI (mps)), .ref za, .ref ze, .int (be), .ref zn, .ref zb, .ref zv, .ref zw, .ref zo, .ref zq, .long (nu), .int (bq), .int (fg), .ref zl, .int (nI (hg)), .int (nI (cz)), .ref zi])), (zv, .inl (cy 0, 16, .inl (vv))), (zw, .inl (cy 0, 16, .inl (ww)))] sz) := by
  refine M_ofW (cc := cX5_turn) (maxL := 6) (ret := none) (by decide) rfl (Nat.le_of_ble_eq_true rfl) ?_
  intro p e s m below meth c A ls args Q hQ S0 hr hlocks hnm hK hst hA hW hl
  have hx := S0.1; have hb := S0.2.1; have hml := S0.2.2.1; have hown := S0.2.2.2.1; have hts := S0.2.2.2.2
  have hl : lv_has ls 6 [(0, .ref z0), (1, .int (nI (ia))), (2, .int (nI (ib))), (3, .int (nI (ic))), (4, .int (nI (id))), (5, .int (nI (ix)))] := hl
  refine lv_aload_n hx hb dX5_turn_0 rfl (lv_at hl 0 rfl) ?_
  refine va_get (D := D) (ci := 5) (v := .ref zv) (C := RX5) (T := TX5) (N := 28) hx hb hts i_X5_turn_X5 hown hK hW.1 0 rfl rfl 17 (by decide) (hts (.fieldLink RX5 53 "TreeHashesModel" "v" "[I") f_X5_turn_0) (fun _ h9 => h9) rfl dX5_turn_1 ?_
  refine lv_iload_n hx hb dX5_turn_4 rfl (lv_at hl 1 rfl) ?_
  refine lv_dup2_11 hx hb dX5_turn_5 rfl rfl ?_
  refine rI hx hb hK hW 1 rfl (k := ia) (by omega) (by omega) dX5_turn_6 ?_
  refine lv_aload_n hx hb dX5_turn_7 rfl (lv_at hl 0 rfl) ?_
  refine va_get (D := D) (ci := 5) (v := .ref zv) (C := RX5) (T := TX5) (N := 28) hx hb hts i_X5_turn_X5 hown hK hW.1 0 rfl rfl 17 (by decide) (hts (.fieldLink RX5 53 "TreeHashesModel" "v" "[I") f_X5_turn_0) (fun _ h9 => h9) rfl dX5_turn_8 ?_
  refine lv_iload_n hx hb dX5_turn_11 rfl (lv_at hl 2 rfl) ?_
  refine rI hx hb hK hW 1 rfl (k := ib) (by omega) (by omega) dX5_turn_12 ?_
  refine lv_aload_n hx hb dX5_turn_13 rfl (lv_at hl 0 rfl) ?_
  refine va_get (D := D) (ci := 5) (v := .ref zw) (C := RX5) (T := TX5) (N := 28) hx hb hts i_X5_turn_X5 hown hK hW.1 0 rfl rfl 18 (by decide) (hts (.fieldLink RX5 56 "TreeHashesModel" "w" "[I") f_X5_turn_2) (fun _ h9 => h9) rfl dX5_turn_14 ?_
  refine lv_iload hx hb dX5_turn_17 (lv_at hl 5 rfl) ?_
  refine rI hx hb hK hW 2 rfl (k := ix) (by omega) (by omega) dX5_turn_19 ?_
  refine lv_iadd hx hb dX5_turn_20 ?_
  refine lv_iadd hx hb dX5_turn_21 ?_
  refine lv_topi (fun a1 e_a1 => ?_)
  refine wI hx hb hK hW 1 rfl (k := ia) (by omega) (by omega) dX5_turn_22 (fun H locs hW => ?_)
  have hW : Wd D A s [(z0, .inr (5, [.ref zr, .ref zs, .ref zt, .ref zc, .ref zm, .ref zk, .ref zh, .ref zd, .ref zf, .int (nI (ml)), .ref zp, .int (nI (mps)), .ref za, .ref ze, .int (be), .ref zn, .ref zb, .ref zv, .ref zw, .ref zo, .ref zq, .long (nu), .int (bq), .int (fg), .ref zl, .int (nI (hg)), .int (nI (cz)), .ref zi])), (zv, .inl (cy 0, 16, .inl (upd vv ia a1))), (zw, .inl (cy 0, 16, .inl (ww)))] H locs := hW
  refine lv_aload_n hx hb dX5_turn_23 rfl (lv_at hl 0 rfl) ?_
  refine va_get (D := D) (ci := 5) (v := .ref zv) (C := RX5) (T := TX5) (N := 28) hx hb hts i_X5_turn_X5 hown hK hW.1 0 rfl rfl 17 (by decide) (hts (.fieldLink RX5 53 "TreeHashesModel" "v" "[I") f_X5_turn_0) (fun _ h9 => h9) rfl dX5_turn_24 ?_
  refine lv_iload hx hb dX5_turn_27 (lv_at hl 4 rfl) ?_
  refine lv_aload_n hx hb dX5_turn_29 rfl (lv_at hl 0 rfl) ?_
  refine va_get (D := D) (ci := 5) (v := .ref zv) (C := RX5) (T := TX5) (N := 28) hx hb hts i_X5_turn_X5 hown hK hW.1 0 rfl rfl 17 (by decide) (hts (.fieldLink RX5 53 "TreeHashesModel" "v" "[I") f_X5_turn_0) (fun _ h9 => h9) rfl dX5_turn_30 ?_
  refine lv_iload hx hb dX5_turn_33 (lv_at hl 4 rfl) ?_
  refine rI hx hb hK hW 1 rfl (k := id) (by omega) (by omega) dX5_turn_35 ?_
  refine tI (x' := vv id) (by simp [upd, hab, hac, had, hbc, hbd, hcd, hab.symm, hac.symm, had.symm, hbc.symm, hbd.symm, hcd.symm]) ?_
  refine lv_aload_n hx hb dX5_turn_36 rfl (lv_at hl 0 rfl) ?_
  refine va_get (D := D) (ci := 5) (v := .ref zv) (C := RX5) (T := TX5) (N := 28) hx hb hts i_X5_turn_X5 hown hK hW.1 0 rfl rfl 17 (by decide) (hts (.fieldLink RX5 53 "TreeHashesModel" "v" "[I") f_X5_turn_0) (fun _ h9 => h9) rfl dX5_turn_37 ?_
  refine lv_iload_n hx hb dX5_turn_40 rfl (lv_at hl 1 rfl) ?_
  refine rI hx hb hK hW 1 rfl (k := ia) (by omega) (by omega) dX5_turn_41 ?_
  refine tI (x' := a1) (by simp [upd, hab, hac, had, hbc, hbd, hcd, hab.symm, hac.symm, had.symm, hbc.symm, hbd.symm, hcd.symm]) ?_
  refine lv_ixor hx hb dX5_turn_42 ?_
  refine lv_bipush (v := nI (16)) hx hb dX5_turn_43 (by decide) ?_
  refine kSi (As := [.int ((vv id) ^^^ a1), .int (nI (16))]) (rest := [.int (nI (id)), .ref zv]) S0 hK hst hA hW [] (fun sz => c_X5_turned l D cy t ((vv id) ^^^ a1) 16 (by omega) sz) rfl (by decide) (va_cwS 2 hts gX5_turn_X5_turned rfl rfl rfl (by decide +kernel) ⟨Nat.le_of_ble_eq_true rfl, Nat.le_of_ble_eq_true rfl⟩) (fun _ => rfl) rfl hl.1 rfl (Nat.le_of_ble_eq_true rfl) dX5_turn_45 ⟨Nat.le_of_ble_eq_true rfl, Nat.le_of_ble_eq_true rfl⟩ (fun r45 u45 H locs p45 hW => ?_)
  have hW : Wd D A s [(z0, .inr (5, [.ref zr, .ref zs, .ref zt, .ref zc, .ref zm, .ref zk, .ref zh, .ref zd, .ref zf, .int (nI (ml)), .ref zp, .int (nI (mps)), .ref za, .ref ze, .int (be), .ref zn, .ref zb, .ref zv, .ref zw, .ref zo, .ref zq, .long (nu), .int (bq), .int (fg), .ref zl, .int (nI (hg)), .int (nI (cz)), .ref zi])), (zv, .inl (cy 0, 16, .inl (upd vv ia a1))), (zw, .inl (cy 0, 16, .inl (ww)))] H locs := hW
  have q45 : r45 = rot ((vv id) ^^^ a1) 16 := p45
  subst q45
  refine lv_topi (fun d1 e_d1 => ?_)
  refine wI hx hb hK hW 1 rfl (k := id) (by omega) (by omega) dX5_turn_48 (fun H locs hW => ?_)
  have hW : Wd D A s [(z0, .inr (5, [.ref zr, .ref zs, .ref zt, .ref zc, .ref zm, .ref zk, .ref zh, .ref zd, .ref zf, .int (nI (ml)), .ref zp, .int (nI (mps)), .ref za, .ref ze, .int (be), .ref zn, .ref zb, .ref zv, .ref zw, .ref zo, .ref zq, .long (nu), .int (bq), .int (fg), .ref zl, .int (nI (hg)), .int (nI (cz)), .ref zi])), (zv, .inl (cy 0, 16, .inl (upd (upd vv ia a1) id d1))), (zw, .inl (cy 0, 16, .inl (ww)))] H locs := hW
  refine lv_aload_n hx hb dX5_turn_49 rfl (lv_at hl 0 rfl) ?_
  refine va_get (D := D) (ci := 5) (v := .ref zv) (C := RX5) (T := TX5) (N := 28) hx hb hts i_X5_turn_X5 hown hK hW.1 0 rfl rfl 17 (by decide) (hts (.fieldLink RX5 53 "TreeHashesModel" "v" "[I") f_X5_turn_0) (fun _ h9 => h9) rfl dX5_turn_50 ?_
  refine lv_iload_n hx hb dX5_turn_53 rfl (lv_at hl 3 rfl) ?_
  refine lv_dup2_11 hx hb dX5_turn_54 rfl rfl ?_
  refine rI hx hb hK hW 1 rfl (k := ic) (by omega) (by omega) dX5_turn_55 ?_
  refine tI (x' := vv ic) (by simp [upd, hab, hac, had, hbc, hbd, hcd, hab.symm, hac.symm, had.symm, hbc.symm, hbd.symm, hcd.symm]) ?_
  refine lv_aload_n hx hb dX5_turn_56 rfl (lv_at hl 0 rfl) ?_
  refine va_get (D := D) (ci := 5) (v := .ref zv) (C := RX5) (T := TX5) (N := 28) hx hb hts i_X5_turn_X5 hown hK hW.1 0 rfl rfl 17 (by decide) (hts (.fieldLink RX5 53 "TreeHashesModel" "v" "[I") f_X5_turn_0) (fun _ h9 => h9) rfl dX5_turn_57 ?_
  refine lv_iload hx hb dX5_turn_60 (lv_at hl 4 rfl) ?_
  refine rI hx hb hK hW 1 rfl (k := id) (by omega) (by omega) dX5_turn_62 ?_
  refine tI (x' := d1) (by simp [upd, hab, hac, had, hbc, hbd, hcd, hab.symm, hac.symm, had.symm, hbc.symm, hbd.symm, hcd.symm]) ?_
  refine lv_iadd hx hb dX5_turn_63 ?_
  refine lv_topi (fun c1 e_c1 => ?_)
  refine wI hx hb hK hW 1 rfl (k := ic) (by omega) (by omega) dX5_turn_64 (fun H locs hW => ?_)
  have hW : Wd D A s [(z0, .inr (5, [.ref zr, .ref zs, .ref zt, .ref zc, .ref zm, .ref zk, .ref zh, .ref zd, .ref zf, .int (nI (ml)), .ref zp, .int (nI (mps)), .ref za, .ref ze, .int (be), .ref zn, .ref zb, .ref zv, .ref zw, .ref zo, .ref zq, .long (nu), .int (bq), .int (fg), .ref zl, .int (nI (hg)), .int (nI (cz)), .ref zi])), (zv, .inl (cy 0, 16, .inl (upd (upd (upd vv ia a1) id d1) ic c1))), (zw, .inl (cy 0, 16, .inl (ww)))] H locs := hW
  refine lv_aload_n hx hb dX5_turn_65 rfl (lv_at hl 0 rfl) ?_
  refine va_get (D := D) (ci := 5) (v := .ref zv) (C := RX5) (T := TX5) (N := 28) hx hb hts i_X5_turn_X5 hown hK hW.1 0 rfl rfl 17 (by decide) (hts (.fieldLink RX5 53 "TreeHashesModel" "v" "[I") f_X5_turn_0) (fun _ h9 => h9) rfl dX5_turn_66 ?_
  refine lv_iload_n hx hb dX5_turn_69 rfl (lv_at hl 2 rfl) ?_
  refine lv_aload_n hx hb dX5_turn_70 rfl (lv_at hl 0 rfl) ?_
  refine va_get (D := D) (ci := 5) (v := .ref zv) (C := RX5) (T := TX5) (N := 28) hx hb hts i_X5_turn_X5 hown hK hW.1 0 rfl rfl 17 (by decide) (hts (.fieldLink RX5 53 "TreeHashesModel" "v" "[I") f_X5_turn_0) (fun _ h9 => h9) rfl dX5_turn_71 ?_
  refine lv_iload_n hx hb dX5_turn_74 rfl (lv_at hl 2 rfl) ?_
  refine rI hx hb hK hW 1 rfl (k := ib) (by omega) (by omega) dX5_turn_75 ?_
  refine tI (x' := vv ib) (by simp [upd, hab, hac, had, hbc, hbd, hcd, hab.symm, hac.symm, had.symm, hbc.symm, hbd.symm, hcd.symm]) ?_
  refine lv_aload_n hx hb dX5_turn_76 rfl (lv_at hl 0 rfl) ?_
  refine va_get (D := D) (ci := 5) (v := .ref zv) (C := RX5) (T := TX5) (N := 28) hx hb hts i_X5_turn_X5 hown hK hW.1 0 rfl rfl 17 (by decide) (hts (.fieldLink RX5 53 "TreeHashesModel" "v" "[I") f_X5_turn_0) (fun _ h9 => h9) rfl dX5_turn_77 ?_
  refine lv_iload_n hx hb dX5_turn_80 rfl (lv_at hl 3 rfl) ?_
  refine rI hx hb hK hW 1 rfl (k := ic) (by omega) (by omega) dX5_turn_81 ?_
  refine tI (x' := c1) (by simp [upd, hab, hac, had, hbc, hbd, hcd, hab.symm, hac.symm, had.symm, hbc.symm, hbd.symm, hcd.symm]) ?_
  refine lv_ixor hx hb dX5_turn_82 ?_
  refine lv_bipush (v := nI (12)) hx hb dX5_turn_83 (by decide) ?_
  refine kSi (As := [.int ((vv ib) ^^^ c1), .int (nI (12))]) (rest := [.int (nI (ib)), .ref zv]) S0 hK hst hA hW [] (fun sz => c_X5_turned l D cy t ((vv ib) ^^^ c1) 12 (by omega) sz) rfl (by decide) (va_cwS 2 hts gX5_turn_X5_turned rfl rfl rfl (by decide +kernel) ⟨Nat.le_of_ble_eq_true rfl, Nat.le_of_ble_eq_true rfl⟩) (fun _ => rfl) rfl hl.1 rfl (Nat.le_of_ble_eq_true rfl) dX5_turn_85 ⟨Nat.le_of_ble_eq_true rfl, Nat.le_of_ble_eq_true rfl⟩ (fun r85 u85 H locs p85 hW => ?_)
  have hW : Wd D A s [(z0, .inr (5, [.ref zr, .ref zs, .ref zt, .ref zc, .ref zm, .ref zk, .ref zh, .ref zd, .ref zf, .int (nI (ml)), .ref zp, .int (nI (mps)), .ref za, .ref ze, .int (be), .ref zn, .ref zb, .ref zv, .ref zw, .ref zo, .ref zq, .long (nu), .int (bq), .int (fg), .ref zl, .int (nI (hg)), .int (nI (cz)), .ref zi])), (zv, .inl (cy 0, 16, .inl (upd (upd (upd vv ia a1) id d1) ic c1))), (zw, .inl (cy 0, 16, .inl (ww)))] H locs := hW
  have q85 : r85 = rot ((vv ib) ^^^ c1) 12 := p85
  subst q85
  refine lv_topi (fun b1 e_b1 => ?_)
  refine wI hx hb hK hW 1 rfl (k := ib) (by omega) (by omega) dX5_turn_88 (fun H locs hW => ?_)
  have hW : Wd D A s [(z0, .inr (5, [.ref zr, .ref zs, .ref zt, .ref zc, .ref zm, .ref zk, .ref zh, .ref zd, .ref zf, .int (nI (ml)), .ref zp, .int (nI (mps)), .ref za, .ref ze, .int (be), .ref zn, .ref zb, .ref zv, .ref zw, .ref zo, .ref zq, .long (nu), .int (bq), .int (fg), .ref zl, .int (nI (hg)), .int (nI (cz)), .ref zi])), (zv, .inl (cy 0, 16, .inl (upd (upd (upd (upd vv ia a1) id d1) ic c1) ib b1))), (zw, .inl (cy 0, 16, .inl (ww)))] H locs := hW
  refine lv_aload_n hx hb dX5_turn_89 rfl (lv_at hl 0 rfl) ?_
  refine va_get (D := D) (ci := 5) (v := .ref zv) (C := RX5) (T := TX5) (N := 28) hx hb hts i_X5_turn_X5 hown hK hW.1 0 rfl rfl 17 (by decide) (hts (.fieldLink RX5 53 "TreeHashesModel" "v" "[I") f_X5_turn_0) (fun _ h9 => h9) rfl dX5_turn_90 ?_
  refine lv_iload_n hx hb dX5_turn_93 rfl (lv_at hl 1 rfl) ?_
  refine lv_dup2_11 hx hb dX5_turn_94 rfl rfl ?_
  refine rI hx hb hK hW 1 rfl (k := ia) (by omega) (by omega) dX5_turn_95 ?_
  refine tI (x' := a1) (by simp [upd, hab, hac, had, hbc, hbd, hcd, hab.symm, hac.symm, had.symm, hbc.symm, hbd.symm, hcd.symm]) ?_
  refine lv_aload_n hx hb dX5_turn_96 rfl (lv_at hl 0 rfl) ?_
  refine va_get (D := D) (ci := 5) (v := .ref zv) (C := RX5) (T := TX5) (N := 28) hx hb hts i_X5_turn_X5 hown hK hW.1 0 rfl rfl 17 (by decide) (hts (.fieldLink RX5 53 "TreeHashesModel" "v" "[I") f_X5_turn_0) (fun _ h9 => h9) rfl dX5_turn_97 ?_
  refine lv_iload_n hx hb dX5_turn_100 rfl (lv_at hl 2 rfl) ?_
  refine rI hx hb hK hW 1 rfl (k := ib) (by omega) (by omega) dX5_turn_101 ?_
  refine tI (x' := b1) (by simp [upd, hab, hac, had, hbc, hbd, hcd, hab.symm, hac.symm, had.symm, hbc.symm, hbd.symm, hcd.symm]) ?_
  refine lv_aload_n hx hb dX5_turn_102 rfl (lv_at hl 0 rfl) ?_
  refine va_get (D := D) (ci := 5) (v := .ref zw) (C := RX5) (T := TX5) (N := 28) hx hb hts i_X5_turn_X5 hown hK hW.1 0 rfl rfl 18 (by decide) (hts (.fieldLink RX5 56 "TreeHashesModel" "w" "[I") f_X5_turn_2) (fun _ h9 => h9) rfl dX5_turn_103 ?_
  refine lv_iload hx hb dX5_turn_106 (lv_at hl 5 rfl) ?_
  refine lv_iconst (v := nI (1)) hx hb dX5_turn_108 (by decide) ?_
  refine lv_iadd hx hb dX5_turn_109 ?_
  refine tI (nI_add _ _) ?_
  refine rI hx hb hK hW 2 rfl (k := ix + 1) (by omega) (by omega) dX5_turn_110 ?_
  refine lv_iadd hx hb dX5_turn_111 ?_
  refine lv_iadd hx hb dX5_turn_112 ?_
  refine lv_topi (fun a2 e_a2 => ?_)
  refine wI hx hb hK hW 1 rfl (k := ia) (by omega) (by omega) dX5_turn_113 (fun H locs hW => ?_)
  have hW : Wd D A s [(z0, .inr (5, [.ref zr, .ref zs, .ref zt, .ref zc, .ref zm, .ref zk, .ref zh, .ref zd, .ref zf, .int (nI (ml)), .ref zp, .int (nI (mps)), .ref za, .ref ze, .int (be), .ref zn, .ref zb, .ref zv, .ref zw, .ref zo, .ref zq, .long (nu), .int (bq), .int (fg), .ref zl, .int (nI (hg)), .int (nI (cz)), .ref zi])), (zv, .inl (cy 0, 16, .inl (upd (upd (upd (upd (upd vv ia a1) id d1) ic c1) ib b1) ia a2))), (zw, .inl (cy 0, 16, .inl (ww)))] H locs := hW
  refine lv_aload_n hx hb dX5_turn_114 rfl (lv_at hl 0 rfl) ?_
  refine va_get (D := D) (ci := 5) (v := .ref zv) (C := RX5) (T := TX5) (N := 28) hx hb hts i_X5_turn_X5 hown hK hW.1 0 rfl rfl 17 (by decide) (hts (.fieldLink RX5 53 "TreeHashesModel" "v" "[I") f_X5_turn_0) (fun _ h9 => h9) rfl dX5_turn_115 ?_
  refine lv_iload hx hb dX5_turn_118 (lv_at hl 4 rfl) ?_
  refine lv_aload_n hx hb dX5_turn_120 rfl (lv_at hl 0 rfl) ?_
  refine va_get (D := D) (ci := 5) (v := .ref zv) (C := RX5) (T := TX5) (N := 28) hx hb hts i_X5_turn_X5 hown hK hW.1 0 rfl rfl 17 (by decide) (hts (.fieldLink RX5 53 "TreeHashesModel" "v" "[I") f_X5_turn_0) (fun _ h9 => h9) rfl dX5_turn_121 ?_
  refine lv_iload hx hb dX5_turn_124 (lv_at hl 4 rfl) ?_
  refine rI hx hb hK hW 1 rfl (k := id) (by omega) (by omega) dX5_turn_126 ?_
  refine tI (x' := d1) (by simp [upd, hab, hac, had, hbc, hbd, hcd, hab.symm, hac.symm, had.symm, hbc.symm, hbd.symm, hcd.symm]) ?_
  refine lv_aload_n hx hb dX5_turn_127 rfl (lv_at hl 0 rfl) ?_
  refine va_get (D := D) (ci := 5) (v := .ref zv) (C := RX5) (T := TX5) (N := 28) hx hb hts i_X5_turn_X5 hown hK hW.1 0 rfl rfl 17 (by decide) (hts (.fieldLink RX5 53 "TreeHashesModel" "v" "[I") f_X5_turn_0) (fun _ h9 => h9) rfl dX5_turn_128 ?_
  refine lv_iload_n hx hb dX5_turn_131 rfl (lv_at hl 1 rfl) ?_
  refine rI hx hb hK hW 1 rfl (k := ia) (by omega) (by omega) dX5_turn_132 ?_
  refine tI (x' := a2) (by simp [upd, hab, hac, had, hbc, hbd, hcd, hab.symm, hac.symm, had.symm, hbc.symm, hbd.symm, hcd.symm]) ?_
  refine lv_ixor hx hb dX5_turn_133 ?_
  refine lv_bipush (v := nI (8)) hx hb dX5_turn_134 (by decide) ?_
  refine kSi (As := [.int (d1 ^^^ a2), .int (nI (8))]) (rest := [.int (nI (id)), .ref zv]) S0 hK hst hA hW [] (fun sz => c_X5_turned l D cy t (d1 ^^^ a2) 8 (by omega) sz) rfl (by decide) (va_cwS 2 hts gX5_turn_X5_turned rfl rfl rfl (by decide +kernel) ⟨Nat.le_of_ble_eq_true rfl, Nat.le_of_ble_eq_true rfl⟩) (fun _ => rfl) rfl hl.1 rfl (Nat.le_of_ble_eq_true rfl) dX5_turn_136 ⟨Nat.le_of_ble_eq_true rfl, Nat.le_of_ble_eq_true rfl⟩ (fun r136 u136 H locs p136 hW => ?_)
  have hW : Wd D A s [(z0, .inr (5, [.ref zr, .ref zs, .ref zt, .ref zc, .ref zm, .ref zk, .ref zh, .ref zd, .ref zf, .int (nI (ml)), .ref zp, .int (nI (mps)), .ref za, .ref ze, .int (be), .ref zn, .ref zb, .ref zv, .ref zw, .ref zo, .ref zq, .long (nu), .int (bq), .int (fg), .ref zl, .int (nI (hg)), .int (nI (cz)), .ref zi])), (zv, .inl (cy 0, 16, .inl (upd (upd (upd (upd (upd vv ia a1) id d1) ic c1) ib b1) ia a2))), (zw, .inl (cy 0, 16, .inl (ww)))] H locs := hW
  have q136 : r136 = rot (d1 ^^^ a2) 8 := p136
  subst q136
  refine lv_topi (fun d2 e_d2 => ?_)
  refine wI hx hb hK hW 1 rfl (k := id) (by omega) (by omega) dX5_turn_139 (fun H locs hW => ?_)
  have hW : Wd D A s [(z0, .inr (5, [.ref zr, .ref zs, .ref zt, .ref zc, .ref zm, .ref zk, .ref zh, .ref zd, .ref zf, .int (nI (ml)), .ref zp, .int (nI (mps)), .ref za, .ref ze, .int (be), .ref zn, .ref zb, .ref zv, .ref zw, .ref zo, .ref zq, .long (nu), .int (bq), .int (fg), .ref zl, .int (nI (hg)), .int (nI (cz)), .ref zi])), (zv, .inl (cy 0, 16, .inl (upd (upd (upd (upd (upd (upd vv ia a1) id d1) ic c1) ib b1) ia a2) id d2))), (zw, .inl (cy 0, 16, .inl (ww)))] H locs := hW
  refine lv_aload_n hx hb dX5_turn_140 rfl (lv_at hl 0 rfl) ?_
  refine va_get (D := D) (ci := 5) (v := .ref zv) (C := RX5) (T := TX5) (N := 28) hx hb hts i_X5_turn_X5 hown hK hW.1 0 rfl rfl 17 (by decide) (hts (.fieldLink RX5 53 "TreeHashesModel" "v" "[I") f_X5_turn_0) (fun _ h9 => h9) rfl dX5_turn_141 ?_
  refine lv_iload_n hx hb dX5_turn_144 rfl (lv_at hl 3 rfl) ?_
  refine lv_dup2_11 hx hb dX5_turn_145 rfl rfl ?_
  refine rI hx hb hK hW 1 rfl (k := ic) (by omega) (by omega) dX5_turn_146 ?_
  refine tI (x' := c1) (by simp [upd, hab, hac, had, hbc, hbd, hcd, hab.symm, hac.symm, had.symm, hbc.symm, hbd.symm, hcd.symm]) ?_
  refine lv_aload_n hx hb dX5_turn_147 rfl (lv_at hl 0 rfl) ?_
  refine va_get (D := D) (ci := 5) (v := .ref zv) (C := RX5) (T := TX5) (N := 28) hx hb hts i_X5_turn_X5 hown hK hW.1 0 rfl rfl 17 (by decide) (hts (.fieldLink RX5 53 "TreeHashesModel" "v" "[I") f_X5_turn_0) (fun _ h9 => h9) rfl dX5_turn_148 ?_
  refine lv_iload hx hb dX5_turn_151 (lv_at hl 4 rfl) ?_
  refine rI hx hb hK hW 1 rfl (k := id) (by omega) (by omega) dX5_turn_153 ?_
  refine tI (x' := d2) (by simp [upd, hab, hac, had, hbc, hbd, hcd, hab.symm, hac.symm, had.symm, hbc.symm, hbd.symm, hcd.symm]) ?_
  refine lv_iadd hx hb dX5_turn_154 ?_
  refine lv_topi (fun c2 e_c2 => ?_)
  refine wI hx hb hK hW 1 rfl (k := ic) (by omega) (by omega) dX5_turn_155 (fun H locs hW => ?_)
  have hW : Wd D A s [(z0, .inr (5, [.ref zr, .ref zs, .ref zt, .ref zc, .ref zm, .ref zk, .ref zh, .ref zd, .ref zf, .int (nI (ml)), .ref zp, .int (nI (mps)), .ref za, .ref ze, .int (be), .ref zn, .ref zb, .ref zv, .ref zw, .ref zo, .ref zq, .long (nu), .int (bq), .int (fg), .ref zl, .int (nI (hg)), .int (nI (cz)), .ref zi])), (zv, .inl (cy 0, 16, .inl (upd (upd (upd (upd (upd (upd (upd vv ia a1) id d1) ic c1) ib b1) ia a2) id d2) ic c2))), (zw, .inl (cy 0, 16, .inl (ww)))] H locs := hW
  refine lv_aload_n hx hb dX5_turn_156 rfl (lv_at hl 0 rfl) ?_
  refine va_get (D := D) (ci := 5) (v := .ref zv) (C := RX5) (T := TX5) (N := 28) hx hb hts i_X5_turn_X5 hown hK hW.1 0 rfl rfl 17 (by decide) (hts (.fieldLink RX5 53 "TreeHashesModel" "v" "[I") f_X5_turn_0) (fun _ h9 => h9) rfl dX5_turn_157 ?_
  refine lv_iload_n hx hb dX5_turn_160 rfl (lv_at hl 2 rfl) ?_
  refine lv_aload_n hx hb dX5_turn_161 rfl (lv_at hl 0 rfl) ?_
  refine va_get (D := D) (ci := 5) (v := .ref zv) (C := RX5) (T := TX5) (N := 28) hx hb hts i_X5_turn_X5 hown hK hW.1 0 rfl rfl 17 (by decide) (hts (.fieldLink RX5 53 "TreeHashesModel" "v" "[I") f_X5_turn_0) (fun _ h9 => h9) rfl dX5_turn_162 ?_
  refine lv_iload_n hx hb dX5_turn_165 rfl (lv_at hl 2 rfl) ?_
  refine rI hx hb hK hW 1 rfl (k := ib) (by omega) (by omega) dX5_turn_166 ?_
  refine tI (x' := b1) (by simp [upd, hab, hac, had, hbc, hbd, hcd, hab.symm, hac.symm, had.symm, hbc.symm, hbd.symm, hcd.symm]) ?_
  refine lv_aload_n hx hb dX5_turn_167 rfl (lv_at hl 0 rfl) ?_
  refine va_get (D := D) (ci := 5) (v := .ref zv) (C := RX5) (T := TX5) (N := 28) hx hb hts i_X5_turn_X5 hown hK hW.1 0 rfl rfl 17 (by decide) (hts (.fieldLink RX5 53 "TreeHashesModel" "v" "[I") f_X5_turn_0) (fun _ h9 => h9) rfl dX5_turn_168 ?_
  refine lv_iload_n hx hb dX5_turn_171 rfl (lv_at hl 3 rfl) ?_
  refine rI hx hb hK hW 1 rfl (k := ic) (by omega) (by omega) dX5_turn_172 ?_
  refine tI (x' := c2) (by simp [upd, hab, hac, had, hbc, hbd, hcd, hab.symm, hac.symm, had.symm, hbc.symm, hbd.symm, hcd.symm]) ?_
  refine lv_ixor hx hb dX5_turn_173 ?_
  refine lv_bipush (v := nI (7)) hx hb dX5_turn_174 (by decide) ?_
  refine kSi (As := [.int (b1 ^^^ c2), .int (nI (7))]) (rest := [.int (nI (ib)), .ref zv]) S0 hK hst hA hW [] (fun sz => c_X5_turned l D cy t (b1 ^^^ c2) 7 (by omega) sz) rfl (by decide) (va_cwS 2 hts gX5_turn_X5_turned rfl rfl rfl (by decide +kernel) ⟨Nat.le_of_ble_eq_true rfl, Nat.le_of_ble_eq_true rfl⟩) (fun _ => rfl) rfl hl.1 rfl (Nat.le_of_ble_eq_true rfl) dX5_turn_176 ⟨Nat.le_of_ble_eq_true rfl, Nat.le_of_ble_eq_true rfl⟩ (fun r176 u176 H locs p176 hW => ?_)
  have hW : Wd D A s [(z0, .inr (5, [.ref zr, .ref zs, .ref zt, .ref zc, .ref zm, .ref zk, .ref zh, .ref zd, .ref zf, .int (nI (ml)), .ref zp, .int (nI (mps)), .ref za, .ref ze, .int (be), .ref zn, .ref zb, .ref zv, .ref zw, .ref zo, .ref zq, .long (nu), .int (bq), .int (fg), .ref zl, .int (nI (hg)), .int (nI (cz)), .ref zi])), (zv, .inl (cy 0, 16, .inl (upd (upd (upd (upd (upd (upd (upd vv ia a1) id d1) ic c1) ib b1) ia a2) id d2) ic c2))), (zw, .inl (cy 0, 16, .inl (ww)))] H locs := hW
  have q176 : r176 = rot (b1 ^^^ c2) 7 := p176
  subst q176
  refine lv_topi (fun b2 e_b2 => ?_)
  refine wI hx hb hK hW 1 rfl (k := ib) (by omega) (by omega) dX5_turn_179 (fun H locs hW => ?_)
  have hW : Wd D A s [(z0, .inr (5, [.ref zr, .ref zs, .ref zt, .ref zc, .ref zm, .ref zk, .ref zh, .ref zd, .ref zf, .int (nI (ml)), .ref zp, .int (nI (mps)), .ref za, .ref ze, .int (be), .ref zn, .ref zb, .ref zv, .ref zw, .ref zo, .ref zq, .long (nu), .int (bq), .int (fg), .ref zl, .int (nI (hg)), .int (nI (cz)), .ref zi])), (zv, .inl (cy 0, 16, .inl (upd (upd (upd (upd (upd (upd (upd (upd vv ia a1) id d1) ic c1) ib b1) ia a2) id d2) ic c2) ib b2))), (zw, .inl (cy 0, 16, .inl (ww)))] H locs := hW
  rw [tn_model (x := ww ix) (y := ww (ix + 1)) hab hac had hbc hbd hcd e_a1 e_d1 e_c1 e_b1 e_a2 e_d2 e_c2 e_b2] at hW
  exact eV hQ hx hb hr hlocks hK hW () (trivial) (rfl) dX5_turn_180

theorem f_X5_mix_0 : Cond.fieldLink RX5 53 "TreeHashesModel" "v" "[I" ∈ wsX5_mix := by decide +kernel
theorem i_X5_mix_X5 : ∀ w ∈ wsX50, w ∈ wsX5_mix := by decide +kernel
theorem f_X5_mix_2 : Cond.fieldLink RX5 92 "TreeHashesModel" "blockLength" "I" ∈ wsX5_mix := by decide +kernel
theorem f_X5_mix_3 : Cond.fieldLink RX5 47 "TreeHashesModel" "chain" "[I" ∈ wsX5_mix := by decide +kernel
theorem f_X5_mix_4 : Cond.fieldLink RX5 56 "TreeHashesModel" "w" "[I" ∈ wsX5_mix := by decide +kernel
theorem f_X5_mix_5 : Cond.fieldLink RX5 59 "TreeHashesModel" "old" "[I" ∈ wsX5_mix := by decide +kernel
theorem f_X5_mix_6 : Cond.fieldLink RX5 62 "TreeHashesModel" "order" "[I" ∈ wsX5_mix := by decide +kernel
theorem f_X5_mix_7 : Cond.fieldLink RX5 50 "TreeHashesModel" "block" "[I" ∈ wsX5_mix := by decide +kernel
theorem f_X5_mix_8 : Cond.fieldLink RX5 41 "TreeHashesModel" "start" "[I" ∈ wsX5_mix := by decide +kernel
set_option maxHeartbeats 4000000 in
set_option maxRecDepth 100000 in
theorem c_X5_mix (l : Launch) (D : va_G) (cy : Nat → ClassId) (t : Nat × Nat) (z0 : Nat) (zr : Nat) (zs : Nat) (zt : Nat) (zc : Nat) (zm : Nat) (zk : Nat) (zh : Nat) (zd : Nat) (zf : Nat) (ml : Nat) (zp : Nat) (mps : Nat) (za : Nat) (ze : Nat) (be : Int32) (zn : Nat) (zb : Nat) (zv : Nat) (zw : Nat) (zo : Nat) (zq : Nat) (nu : Int64) (bq : Int32) (fg : Int32) (zl : Nat) (hg : Nat) (cz : Nat) (zi : Nat) (cn : Nat → Int32) (bb : Nat → Int32) (vv : Nat → Int32) (ww : Nat → Int32) (oo : Nat → Int32) (ct : Int64) (fl : Int32)  (sz : Nat) : Met l yX5_mix wsX5_mix ({ frames := 2, cells := 0, slots := 0, locals := 46 }) (PcW D cy t [(z0, .inr (5, [.ref zr, .ref zs, .ref zt, .ref zc, .ref zm, .ref zk, .ref zh, .ref zd, .ref zf, .int (nI (ml)), .ref zp, .int (nI (mps)), .ref za, .ref ze, .int (be), .ref zn, .ref zb, .ref zv, .ref zw, .ref zo, .ref zq, .long (nu), .int (bq), .int (fg), .ref zl, .int (nI (hg)), .int (nI (cz)), .ref zi])), (zn, .inl (cy 0, 8, .inl (cn))), (zb, .inl (cy 0, 16, .inl (bb))), (zv, .inl (cy 0, 16, .inl (vv))), (zw, .inl (cy 0, 16, .inl (ww))), (zo, .inl (cy 0, 16, .inl (oo))), (zq, .inl (cy 0, 16, .inl (fun k => nI (orN k)))), (za, .inl (cy 0, 8, .inl (stA)))] [.ref z0, .long (ct), .int (fl)] sz) (QvA D cy (fun u : (Nat → Int32) × (Nat → Int32) => match u with | (ww2, oo2) => True) (fun u : (Nat → Int32) × (Nat → Int32) => match u with | (ww2, oo2) => [(z0, .inr (5, [.ref zr, .ref zs, .ref zt, .ref zc, .ref zm, .ref zk, .ref zh, .ref zd, .ref zf, .int (nI (ml)), .ref zp, .int (nI (mps)), .ref za, .ref ze, .int (be), .ref zn, .ref zb, .ref zv, .ref zw, .ref zo, .ref zq, .long (nu), .int (bq), .int (fg), .ref zl, .int (nI (hg)), .int (nI (cz)), .ref zi])), (zn, .inl (cy 0, 8, .inl (cn))), (zb, .inl (cy 0, 16, .inl (bb))), (zv, .inl (cy 0, 16, .inl (mixV cn bb ct bq fl))), (zw, .inl (cy 0, 16, .inl (ww2))), (zo, .inl (cy 0, 16, .inl (oo2))), (zq, .inl (cy 0, 16, .inl (fun k => nI (orN k)))), (za, .inl (cy 0, 8, .inl (stA)))]) (va_A [(z0, .inr (5, [.ref zr, .ref zs, .ref zt, .ref zc, .ref zm, .ref zk, .ref zh, .ref zd, .ref zf, .int (nI (ml)), .ref zp, .int (nI (mps)), .ref za, .ref ze, .int (be), .ref zn, .ref zb, .ref zv, .ref zw, .ref zo, .ref zq, .long (nu), .int (bq), .int (fg), .ref zl, .int (nI (hg)), .int (nI (cz)), .ref zi])), (zn, .inl (cy 0, 8, .inl (cn))), (zb, .inl (cy 0, 16, .inl (bb))), (zv, .inl (cy 0, 16, .inl (vv))), (zw, .inl (cy 0, 16, .inl (ww))), (zo, .inl (cy 0, 16, .inl (oo))), (zq, .inl (cy 0, 16, .inl (fun k => nI (orN k)))), (za, .inl (cy 0, 8, .inl (stA)))] sz)) 0 0 (va_A [(z0, .inr (5, [.ref zr, .ref zs, .ref zt, .ref zc, .ref zm, .ref zk, .ref zh, .ref zd, .ref zf, .int (nI (ml)), .ref zp, .int (nI (mps)), .ref za, .ref ze, .int (be), .ref zn, .ref zb, .ref zv, .ref zw, .ref zo, .ref zq, .long (nu), .int (bq), .int (fg), .ref zl, .int (nI (hg)), .int (nI (cz)), .ref zi])), (zn, .inl (cy 0, 8, .inl (cn))), (zb, .inl (cy 0, 16, .inl (bb))), (zv, .inl (cy 0, 16, .inl (vv))), (zw, .inl (cy 0, 16, .inl (ww))), (zo, .inl (cy 0, 16, .inl (oo))), (zq, .inl (cy 0, 16, .inl (fun k => nI (orN k)))), (za, .inl (cy 0, 8, .inl (stA)))] sz) := by
  refine M_ofW (cc := cX5_mix) (maxL := 6) (ret := none) (by decide) rfl (Nat.le_of_ble_eq_true rfl) ?_
  intro p e s m below meth c A ls args Q hQ S0 hr hlocks hnm hK hst hA hW hl
  have hx := S0.1; have hb := S0.2.1; have hml := S0.2.2.1; have hown := S0.2.2.2.1; have hts := S0.2.2.2.2
  have hl : lv_has ls 6 [(0, .ref z0), (1, .long (ct)), (3, .int (fl))] := hl
  refine lv_iconst (v := nI (0)) hx hb dX5_mix_0 (by decide) ?_
  refine lv_istore (lv' := [(4, .int (nI (0))), (0, .ref z0), (1, .long (ct)), (3, .int (fl))]) hx hb dX5_mix_1 hl (by decide) rfl (fun ls hl => ?_)
  have loop3 : ∀ (nF : Nat) (i : Nat), 8 - i < nF → (i ≤ 8) → ∀ (H : Heap) (locs : List Loc), Wd D A s [(z0, .inr (5, [.ref zr, .ref zs, .ref zt, .ref zc, .ref zm, .ref zk, .ref zh, .ref zd, .ref zf, .int (nI (ml)), .ref zp, .int (nI (mps)), .ref za, .ref ze, .int (be), .ref zn, .ref zb, .ref zv, .ref zw, .ref zo, .ref zq, .long (nu), .int (bq), .int (fg), .ref zl, .int (nI (hg)), .int (nI (cz)), .ref zi])), (zn, .inl (cy 0, 8, .inl (cn))), (zb, .inl (cy 0, 16, .inl (bb))), (zv, .inl (cy 0, 16, .inl (jnI vv cn stZ i))), (zw, .inl (cy 0, 16, .inl (ww))), (zo, .inl (cy 0, 16, .inl (oo))), (zq, .inl (cy 0, 16, .inl (fun k => nI (orN k)))), (za, .inl (cy 0, 8, .inl (stA)))] H locs → ∀ ls : Array Slot, lv_has ls 6 [(0, .ref z0), (1, .long (ct)), (3, .int (fl)), (4, .int (nI (i)))] → W p l e ({ frames := 2, cells := 0, slots := 0, locals := 46 }) s m args below meth c H locs 0 0 Q (F0 m 3 ls []) := by
    intro nF
    induction nF with
    | zero => intro i hf; exact absurd hf (Nat.not_lt_zero _)
    | succ nF ih3 =>
      intro i hf hi H locs hW ls hl
      refine lv_iload hx hb dX5_mix_3 (lv_at hl 3 rfl) ?_
      refine lv_bipush (v := nI (8)) hx hb dX5_mix_5 (by decide) ?_
      refine iGe (a := i) (b := 8) (tgt := 57) hx hb dX5_mix_7 (by decide) (by omega) (by omega) (fun h7 => ?_) (fun h7 => ?_)
      · skip
        have e9 : i = 8 := by omega
        rw [e9] at hW
        refine lv_aload_n hx hb dX5_mix_57 rfl (lv_at hl 0 rfl) ?_
        refine va_get (D := D) (ci := 5) (v := .ref zv) (C := RX5) (T := TX5) (N := 28) hx hb hts i_X5_mix_X5 hown hK hW.1 0 rfl rfl 17 (by decide) (hts (.fieldLink RX5 53 "TreeHashesModel" "v" "[I") f_X5_mix_0) (fun _ h9 => h9) rfl dX5_mix_58 ?_
        refine lv_bipush (v := nI (12)) hx hb dX5_mix_61 (by decide) ?_
        refine lv_lload_n hx hb dX5_mix_63 rfl (lv_at hl 1 rfl) ?_
        refine lv_l2i hx hb dX5_mix_64 rfl ?_
        refine wI hx hb hK hW 3 rfl (k := 12) (by omega) (by omega) dX5_mix_65 (fun H locs hW => ?_)
        have hW : Wd D A s [(z0, .inr (5, [.ref zr, .ref zs, .ref zt, .ref zc, .ref zm, .ref zk, .ref zh, .ref zd, .ref zf, .int (nI (ml)), .ref zp, .int (nI (mps)), .ref za, .ref ze, .int (be), .ref zn, .ref zb, .ref zv, .ref zw, .ref zo, .ref zq, .long (nu), .int (bq), .int (fg), .ref zl, .int (nI (hg)), .int (nI (cz)), .ref zi])), (zn, .inl (cy 0, 8, .inl (cn))), (zb, .inl (cy 0, 16, .inl (bb))), (zv, .inl (cy 0, 16, .inl (upd (jnI vv cn stZ 8) 12 ct.toInt32))), (zw, .inl (cy 0, 16, .inl (ww))), (zo, .inl (cy 0, 16, .inl (oo))), (zq, .inl (cy 0, 16, .inl (fun k => nI (orN k)))), (za, .inl (cy 0, 8, .inl (stA)))] H locs := hW
        refine lv_aload_n hx hb dX5_mix_66 rfl (lv_at hl 0 rfl) ?_
        refine va_get (D := D) (ci := 5) (v := .ref zv) (C := RX5) (T := TX5) (N := 28) hx hb hts i_X5_mix_X5 hown hK hW.1 0 rfl rfl 17 (by decide) (hts (.fieldLink RX5 53 "TreeHashesModel" "v" "[I") f_X5_mix_0) (fun _ h9 => h9) rfl dX5_mix_67 ?_
        refine lv_bipush (v := nI (13)) hx hb dX5_mix_70 (by decide) ?_
        refine lv_lload_n hx hb dX5_mix_72 rfl (lv_at hl 1 rfl) ?_
        refine lv_bipush (v := nI (32)) hx hb dX5_mix_73 (by decide) ?_
        refine lv_lshr hx hb dX5_mix_75 rfl ?_
        refine lv_l2i hx hb dX5_mix_76 rfl ?_
        refine wI hx hb hK hW 3 rfl (k := 13) (by omega) (by omega) dX5_mix_77 (fun H locs hW => ?_)
        have hW : Wd D A s [(z0, .inr (5, [.ref zr, .ref zs, .ref zt, .ref zc, .ref zm, .ref zk, .ref zh, .ref zd, .ref zf, .int (nI (ml)), .ref zp, .int (nI (mps)), .ref za, .ref ze, .int (be), .ref zn, .ref zb, .ref zv, .ref zw, .ref zo, .ref zq, .long (nu), .int (bq), .int (fg), .ref zl, .int (nI (hg)), .int (nI (cz)), .ref zi])), (zn, .inl (cy 0, 8, .inl (cn))), (zb, .inl (cy 0, 16, .inl (bb))), (zv, .inl (cy 0, 16, .inl (upd (upd (jnI vv cn stZ 8) 12 ct.toInt32) 13 ((ct >>> ((nI (32)).toInt64 &&& 63)).toInt32)))), (zw, .inl (cy 0, 16, .inl (ww))), (zo, .inl (cy 0, 16, .inl (oo))), (zq, .inl (cy 0, 16, .inl (fun k => nI (orN k)))), (za, .inl (cy 0, 8, .inl (stA)))] H locs := hW
        refine lv_aload_n hx hb dX5_mix_78 rfl (lv_at hl 0 rfl) ?_
        refine va_get (D := D) (ci := 5) (v := .ref zv) (C := RX5) (T := TX5) (N := 28) hx hb hts i_X5_mix_X5 hown hK hW.1 0 rfl rfl 17 (by decide) (hts (.fieldLink RX5 53 "TreeHashesModel" "v" "[I") f_X5_mix_0) (fun _ h9 => h9) rfl dX5_mix_79 ?_
        refine lv_bipush (v := nI (14)) hx hb dX5_mix_82 (by decide) ?_
        refine lv_aload_n hx hb dX5_mix_84 rfl (lv_at hl 0 rfl) ?_
        refine va_get (D := D) (ci := 5) (v := .int (bq)) (C := RX5) (T := TX5) (N := 28) hx hb hts i_X5_mix_X5 hown hK hW.1 0 rfl rfl 22 (by decide) (hts (.fieldLink RX5 92 "TreeHashesModel" "blockLength" "I") f_X5_mix_2) (fun _ h9 => h9) rfl dX5_mix_85 ?_
        refine wI hx hb hK hW 3 rfl (k := 14) (by omega) (by omega) dX5_mix_88 (fun H locs hW => ?_)
        have hW : Wd D A s [(z0, .inr (5, [.ref zr, .ref zs, .ref zt, .ref zc, .ref zm, .ref zk, .ref zh, .ref zd, .ref zf, .int (nI (ml)), .ref zp, .int (nI (mps)), .ref za, .ref ze, .int (be), .ref zn, .ref zb, .ref zv, .ref zw, .ref zo, .ref zq, .long (nu), .int (bq), .int (fg), .ref zl, .int (nI (hg)), .int (nI (cz)), .ref zi])), (zn, .inl (cy 0, 8, .inl (cn))), (zb, .inl (cy 0, 16, .inl (bb))), (zv, .inl (cy 0, 16, .inl (upd (upd (upd (jnI vv cn stZ 8) 12 ct.toInt32) 13 ((ct >>> ((nI (32)).toInt64 &&& 63)).toInt32)) 14 bq))), (zw, .inl (cy 0, 16, .inl (ww))), (zo, .inl (cy 0, 16, .inl (oo))), (zq, .inl (cy 0, 16, .inl (fun k => nI (orN k)))), (za, .inl (cy 0, 8, .inl (stA)))] H locs := hW
        refine lv_aload_n hx hb dX5_mix_89 rfl (lv_at hl 0 rfl) ?_
        refine va_get (D := D) (ci := 5) (v := .ref zv) (C := RX5) (T := TX5) (N := 28) hx hb hts i_X5_mix_X5 hown hK hW.1 0 rfl rfl 17 (by decide) (hts (.fieldLink RX5 53 "TreeHashesModel" "v" "[I") f_X5_mix_0) (fun _ h9 => h9) rfl dX5_mix_90 ?_
        refine lv_bipush (v := nI (15)) hx hb dX5_mix_93 (by decide) ?_
        refine lv_iload_n hx hb dX5_mix_95 rfl (lv_at hl 2 rfl) ?_
        refine wI hx hb hK hW 3 rfl (k := 15) (by omega) (by omega) dX5_mix_96 (fun H locs hW => ?_)
        have hW : Wd D A s [(z0, .inr (5, [.ref zr, .ref zs, .ref zt, .ref zc, .ref zm, .ref zk, .ref zh, .ref zd, .ref zf, .int (nI (ml)), .ref zp, .int (nI (mps)), .ref za, .ref ze, .int (be), .ref zn, .ref zb, .ref zv, .ref zw, .ref zo, .ref zq, .long (nu), .int (bq), .int (fg), .ref zl, .int (nI (hg)), .int (nI (cz)), .ref zi])), (zn, .inl (cy 0, 8, .inl (cn))), (zb, .inl (cy 0, 16, .inl (bb))), (zv, .inl (cy 0, 16, .inl (upd (upd (upd (upd (jnI vv cn stZ 8) 12 ct.toInt32) 13 ((ct >>> ((nI (32)).toInt64 &&& 63)).toInt32)) 14 bq) 15 fl))), (zw, .inl (cy 0, 16, .inl (ww))), (zo, .inl (cy 0, 16, .inl (oo))), (zq, .inl (cy 0, 16, .inl (fun k => nI (orN k)))), (za, .inl (cy 0, 8, .inl (stA)))] H locs := hW
        have hW := Wd.ext hW 3 rfl ((vin cn ct bq fl)) (vin_ok2)
        have hW : Wd D A s [(z0, .inr (5, [.ref zr, .ref zs, .ref zt, .ref zc, .ref zm, .ref zk, .ref zh, .ref zd, .ref zf, .int (nI (ml)), .ref zp, .int (nI (mps)), .ref za, .ref ze, .int (be), .ref zn, .ref zb, .ref zv, .ref zw, .ref zo, .ref zq, .long (nu), .int (bq), .int (fg), .ref zl, .int (nI (hg)), .int (nI (cz)), .ref zi])), (zn, .inl (cy 0, 8, .inl (cn))), (zb, .inl (cy 0, 16, .inl (bb))), (zv, .inl (cy 0, 16, .inl ((vin cn ct bq fl)))), (zw, .inl (cy 0, 16, .inl (ww))), (zo, .inl (cy 0, 16, .inl (oo))), (zq, .inl (cy 0, 16, .inl (fun k => nI (orN k)))), (za, .inl (cy 0, 8, .inl (stA)))] H locs := hW
        refine lv_iconst (v := nI (0)) hx hb dX5_mix_97 (by decide) ?_
        refine lv_istore (lv' := [(4, .int (nI (0))), (0, .ref z0), (1, .long (ct)), (3, .int (fl))]) hx hb dX5_mix_98 hl (by decide) rfl (fun ls hl => ?_)
        have loop100 : ∀ (nF : Nat) (i : Nat), 16 - i < nF → (i ≤ 16) → ∀ (H : Heap) (locs : List Loc), Wd D A s [(z0, .inr (5, [.ref zr, .ref zs, .ref zt, .ref zc, .ref zm, .ref zk, .ref zh, .ref zd, .ref zf, .int (nI (ml)), .ref zp, .int (nI (mps)), .ref za, .ref ze, .int (be), .ref zn, .ref zb, .ref zv, .ref zw, .ref zo, .ref zq, .long (nu), .int (bq), .int (fg), .ref zl, .int (nI (hg)), .int (nI (cz)), .ref zi])), (zn, .inl (cy 0, 8, .inl (cn))), (zb, .inl (cy 0, 16, .inl (bb))), (zv, .inl (cy 0, 16, .inl ((vin cn ct bq fl)))), (zw, .inl (cy 0, 16, .inl (apG ww 0 bb i))), (zo, .inl (cy 0, 16, .inl (oo))), (zq, .inl (cy 0, 16, .inl (fun k => nI (orN k)))), (za, .inl (cy 0, 8, .inl (stA)))] H locs → ∀ ls : Array Slot, lv_has ls 6 [(0, .ref z0), (1, .long (ct)), (3, .int (fl)), (4, .int (nI (i)))] → W p l e ({ frames := 2, cells := 0, slots := 0, locals := 46 }) s m args below meth c H locs 0 0 Q (F0 m 100 ls []) := by
          intro nF
          induction nF with
          | zero => intro i hf; exact absurd hf (Nat.not_lt_zero _)
          | succ nF ih100 =>
            intro i hf hi H locs hW ls hl
            refine lv_iload hx hb dX5_mix_100 (lv_at hl 3 rfl) ?_
            refine lv_bipush (v := nI (16)) hx hb dX5_mix_102 (by decide) ?_
            refine iGe (a := i) (b := 16) (tgt := 127) hx hb dX5_mix_104 (by decide) (by omega) (by omega) (fun h104 => ?_) (fun h104 => ?_)
            · skip
              have e9 : i = 16 := by omega
              rw [e9] at hW
              have hW := Wd.ext hW 4 rfl bb apG_all
              refine lv_iconst (v := nI (0)) hx hb dX5_mix_127 (by decide) ?_
              refine lv_istore (lv' := [(4, .int (nI (0))), (0, .ref z0), (1, .long (ct)), (3, .int (fl))]) hx hb dX5_mix_128 hl (by decide) rfl (fun ls hl => ?_)
              have loop130 : ∀ (nF : Nat) (i : Nat) (ox : Nat → Int32), 7 - i < nF → (i ≤ 7) → ∀ (H : Heap) (locs : List Loc), Wd D A s [(z0, .inr (5, [.ref zr, .ref zs, .ref zt, .ref zc, .ref zm, .ref zk, .ref zh, .ref zd, .ref zf, .int (nI (ml)), .ref zp, .int (nI (mps)), .ref za, .ref ze, .int (be), .ref zn, .ref zb, .ref zv, .ref zw, .ref zo, .ref zq, .long (nu), .int (bq), .int (fg), .ref zl, .int (nI (hg)), .int (nI (cz)), .ref zi])), (zn, .inl (cy 0, 8, .inl (cn))), (zb, .inl (cy 0, 16, .inl (bb))), (zv, .inl (cy 0, 16, .inl (vr (vin cn ct bq fl) bb i))), (zw, .inl (cy 0, 16, .inl (wr bb i))), (zo, .inl (cy 0, 16, .inl (ox))), (zq, .inl (cy 0, 16, .inl (fun k => nI (orN k)))), (za, .inl (cy 0, 8, .inl (stA)))] H locs → ∀ ls : Array Slot, lv_has ls 6 [(0, .ref z0), (1, .long (ct)), (3, .int (fl)), (4, .int (nI (i)))] → W p l e ({ frames := 2, cells := 0, slots := 0, locals := 46 }) s m args below meth c H locs 0 0 Q (F0 m 130 ls []) := by
                intro nF
                induction nF with
                | zero => intro i ox hf; exact absurd hf (Nat.not_lt_zero _)
                | succ nF ih130 =>
                  intro i ox hf hi H locs hW ls hl
                  refine lv_iload hx hb dX5_mix_130 (lv_at hl 3 rfl) ?_
                  refine lv_bipush (v := nI (7)) hx hb dX5_mix_132 (by decide) ?_
                  refine iGe (a := i) (b := 7) (tgt := 301) hx hb dX5_mix_134 (by decide) (by omega) (by omega) (fun h134 => ?_) (fun h134 => ?_)
                  · skip
                    have e9 : i = 7 := by omega
                    rw [e9] at hW
                    refine lv_iconst (v := nI (0)) hx hb dX5_mix_301 (by decide) ?_
                    refine lv_istore (lv' := [(4, .int (nI (0))), (0, .ref z0), (1, .long (ct)), (3, .int (fl))]) hx hb dX5_mix_302 hl (by decide) rfl (fun ls hl => ?_)
                    have loop304 : ∀ (nF : Nat) (k : Nat), 8 - k < nF → (k ≤ 8) → ∀ (H : Heap) (locs : List Loc), Wd D A s [(z0, .inr (5, [.ref zr, .ref zs, .ref zt, .ref zc, .ref zm, .ref zk, .ref zh, .ref zd, .ref zf, .int (nI (ml)), .ref zp, .int (nI (mps)), .ref za, .ref ze, .int (be), .ref zn, .ref zb, .ref zv, .ref zw, .ref zo, .ref zq, .long (nu), .int (bq), .int (fg), .ref zl, .int (nI (hg)), .int (nI (cz)), .ref zi])), (zn, .inl (cy 0, 8, .inl (cn))), (zb, .inl (cy 0, 16, .inl (bb))), (zv, .inl (cy 0, 16, .inl (fin (vr (vin cn ct bq fl) bb 7) cn k))), (zw, .inl (cy 0, 16, .inl (wr bb 7))), (zo, .inl (cy 0, 16, .inl (ox))), (zq, .inl (cy 0, 16, .inl (fun k => nI (orN k)))), (za, .inl (cy 0, 8, .inl (stA)))] H locs → ∀ ls : Array Slot, lv_has ls 6 [(0, .ref z0), (1, .long (ct)), (3, .int (fl)), (4, .int (nI (k)))] → W p l e ({ frames := 2, cells := 0, slots := 0, locals := 46 }) s m args below meth c H locs 0 0 Q (F0 m 304 ls []) := by
                      intro nF
                      induction nF with
                      | zero => intro k hf; exact absurd hf (Nat.not_lt_zero _)
                      | succ nF ih304 =>
                        intro k hf hk H locs hW ls hl
                        refine lv_iload hx hb dX5_mix_304 (lv_at hl 3 rfl) ?_
                        refine lv_bipush (v := nI (8)) hx hb dX5_mix_306 (by decide) ?_
                        refine iGe (a := k) (b := 8) (tgt := 357) hx hb dX5_mix_308 (by decide) (by omega) (by omega) (fun h308 => ?_) (fun h308 => ?_)
                        · skip
                          have e9 : k = 8 := by omega
                          rw [e9] at hW
                          exact eV hQ hx hb hr hlocks hK hW (wr bb 7, ox) (trivial) (rfl) dX5_mix_357
                        · skip
                          refine lv_aload_n hx hb dX5_mix_311 rfl (lv_at hl 0 rfl) ?_
                          refine va_get (D := D) (ci := 5) (v := .ref zv) (C := RX5) (T := TX5) (N := 28) hx hb hts i_X5_mix_X5 hown hK hW.1 0 rfl rfl 17 (by decide) (hts (.fieldLink RX5 53 "TreeHashesModel" "v" "[I") f_X5_mix_0) (fun _ h9 => h9) rfl dX5_mix_312 ?_
                          refine lv_iload hx hb dX5_mix_315 (lv_at hl 3 rfl) ?_
                          refine lv_dup2_11 hx hb dX5_mix_317 rfl rfl ?_
                          refine rI hx hb hK hW 3 rfl (k := k) (by omega) (by omega) dX5_mix_318 ?_
                          refine lv_aload_n hx hb dX5_mix_319 rfl (lv_at hl 0 rfl) ?_
                          refine va_get (D := D) (ci := 5) (v := .ref zv) (C := RX5) (T := TX5) (N := 28) hx hb hts i_X5_mix_X5 hown hK hW.1 0 rfl rfl 17 (by decide) (hts (.fieldLink RX5 53 "TreeHashesModel" "v" "[I") f_X5_mix_0) (fun _ h9 => h9) rfl dX5_mix_320 ?_
                          refine lv_bipush (v := nI (8)) hx hb dX5_mix_323 (by decide) ?_
                          refine lv_iload hx hb dX5_mix_325 (lv_at hl 3 rfl) ?_
                          refine lv_iadd hx hb dX5_mix_327 ?_
                          refine tI (nI_add _ _) ?_
                          refine rI hx hb hK hW 3 rfl (k := 8 + k) (by omega) (by omega) dX5_mix_328 ?_
                          refine lv_ixor hx hb dX5_mix_329 ?_
                          refine wI hx hb hK hW 3 rfl (k := k) (by omega) (by omega) dX5_mix_330 (fun H locs hW => ?_)
                          have hW : Wd D A s [(z0, .inr (5, [.ref zr, .ref zs, .ref zt, .ref zc, .ref zm, .ref zk, .ref zh, .ref zd, .ref zf, .int (nI (ml)), .ref zp, .int (nI (mps)), .ref za, .ref ze, .int (be), .ref zn, .ref zb, .ref zv, .ref zw, .ref zo, .ref zq, .long (nu), .int (bq), .int (fg), .ref zl, .int (nI (hg)), .int (nI (cz)), .ref zi])), (zn, .inl (cy 0, 8, .inl (cn))), (zb, .inl (cy 0, 16, .inl (bb))), (zv, .inl (cy 0, 16, .inl (upd (fin (vr (vin cn ct bq fl) bb 7) cn k) k (((fin (vr (vin cn ct bq fl) bb 7) cn k) k) ^^^ ((fin (vr (vin cn ct bq fl) bb 7) cn k) (8 + k)))))), (zw, .inl (cy 0, 16, .inl (wr bb 7))), (zo, .inl (cy 0, 16, .inl (ox))), (zq, .inl (cy 0, 16, .inl (fun k => nI (orN k)))), (za, .inl (cy 0, 8, .inl (stA)))] H locs := hW
                          refine lv_aload_n hx hb dX5_mix_331 rfl (lv_at hl 0 rfl) ?_
                          refine va_get (D := D) (ci := 5) (v := .ref zv) (C := RX5) (T := TX5) (N := 28) hx hb hts i_X5_mix_X5 hown hK hW.1 0 rfl rfl 17 (by decide) (hts (.fieldLink RX5 53 "TreeHashesModel" "v" "[I") f_X5_mix_0) (fun _ h9 => h9) rfl dX5_mix_332 ?_
                          refine lv_bipush (v := nI (8)) hx hb dX5_mix_335 (by decide) ?_
                          refine lv_iload hx hb dX5_mix_337 (lv_at hl 3 rfl) ?_
                          refine lv_iadd hx hb dX5_mix_339 ?_
                          refine tI (nI_add _ _) ?_
                          refine lv_dup2_11 hx hb dX5_mix_340 rfl rfl ?_
                          refine rI hx hb hK hW 3 rfl (k := 8 + k) (by omega) (by omega) dX5_mix_341 ?_
                          refine lv_aload_n hx hb dX5_mix_342 rfl (lv_at hl 0 rfl) ?_
                          refine va_get (D := D) (ci := 5) (v := .ref zn) (C := RX5) (T := TX5) (N := 28) hx hb hts i_X5_mix_X5 hown hK hW.1 0 rfl rfl 15 (by decide) (hts (.fieldLink RX5 47 "TreeHashesModel" "chain" "[I") f_X5_mix_3) (fun _ h9 => h9) rfl dX5_mix_343 ?_
                          refine lv_iload hx hb dX5_mix_346 (lv_at hl 3 rfl) ?_
                          refine rI hx hb hK hW 1 rfl (k := k) (by omega) (by omega) dX5_mix_348 ?_
                          refine lv_ixor hx hb dX5_mix_349 ?_
                          refine wI hx hb hK hW 3 rfl (k := 8 + k) (by omega) (by omega) dX5_mix_350 (fun H locs hW => ?_)
                          have hW : Wd D A s [(z0, .inr (5, [.ref zr, .ref zs, .ref zt, .ref zc, .ref zm, .ref zk, .ref zh, .ref zd, .ref zf, .int (nI (ml)), .ref zp, .int (nI (mps)), .ref za, .ref ze, .int (be), .ref zn, .ref zb, .ref zv, .ref zw, .ref zo, .ref zq, .long (nu), .int (bq), .int (fg), .ref zl, .int (nI (hg)), .int (nI (cz)), .ref zi])), (zn, .inl (cy 0, 8, .inl (cn))), (zb, .inl (cy 0, 16, .inl (bb))), (zv, .inl (cy 0, 16, .inl (upd (upd (fin (vr (vin cn ct bq fl) bb 7) cn k) k (((fin (vr (vin cn ct bq fl) bb 7) cn k) k) ^^^ ((fin (vr (vin cn ct bq fl) bb 7) cn k) (8 + k)))) (8 + k) (((upd (fin (vr (vin cn ct bq fl) bb 7) cn k) k (((fin (vr (vin cn ct bq fl) bb 7) cn k) k) ^^^ ((fin (vr (vin cn ct bq fl) bb 7) cn k) (8 + k)))) (8 + k)) ^^^ (cn k))))), (zw, .inl (cy 0, 16, .inl (wr bb 7))), (zo, .inl (cy 0, 16, .inl (ox))), (zq, .inl (cy 0, 16, .inl (fun k => nI (orN k)))), (za, .inl (cy 0, 8, .inl (stA)))] H locs := hW
                          rw [show (upd (upd (fin (vr (vin cn ct bq fl) bb 7) cn k) k (((fin (vr (vin cn ct bq fl) bb 7) cn k) k) ^^^ ((fin (vr (vin cn ct bq fl) bb 7) cn k) (8 + k)))) (8 + k) (((upd (fin (vr (vin cn ct bq fl) bb 7) cn k) k (((fin (vr (vin cn ct bq fl) bb 7) cn k) k) ^^^ ((fin (vr (vin cn ct bq fl) bb 7) cn k) (8 + k)))) (8 + k)) ^^^ (cn k))) = (fin (vr (vin cn ct bq fl) bb 7) cn (k + 1)) from fin_s2 _ _ (by omega)] at hW
                          have hW : Wd D A s [(z0, .inr (5, [.ref zr, .ref zs, .ref zt, .ref zc, .ref zm, .ref zk, .ref zh, .ref zd, .ref zf, .int (nI (ml)), .ref zp, .int (nI (mps)), .ref za, .ref ze, .int (be), .ref zn, .ref zb, .ref zv, .ref zw, .ref zo, .ref zq, .long (nu), .int (bq), .int (fg), .ref zl, .int (nI (hg)), .int (nI (cz)), .ref zi])), (zn, .inl (cy 0, 8, .inl (cn))), (zb, .inl (cy 0, 16, .inl (bb))), (zv, .inl (cy 0, 16, .inl (fin (vr (vin cn ct bq fl) bb 7) cn (k + 1)))), (zw, .inl (cy 0, 16, .inl (wr bb 7))), (zo, .inl (cy 0, 16, .inl (ox))), (zq, .inl (cy 0, 16, .inl (fun k => nI (orN k)))), (za, .inl (cy 0, 8, .inl (stA)))] H locs := hW
                          refine lv_iinc (v := nI (k + 1)) (lv' := [(4, .int (nI (k + 1))), (0, .ref z0), (1, .long (ct)), (3, .int (fl))]) hx hb dX5_mix_351 hl (k := 3) rfl (nI_1 _) (by decide) rfl (fun ls hl => ?_)
                          refine lv_goto (tgt := 304) hx hb dX5_mix_354 (by decide) ?_
                          exact ih304 (k + 1) (by omega) (by omega) _ _ hW _ (lv_sub hl [1, 2, 3, 0] rfl)
                    rw [← fin_0 (vr (vin cn ct bq fl) bb 7) cn] at hW
                    exact loop304 _ 0 (Nat.lt_succ_self _) (by omega) _ _ hW _ (lv_sub hl [1, 2, 3, 0] rfl)
                  · skip
                    refine lv_iconst (v := nI (0)) hx hb dX5_mix_137 (by decide) ?_
                    refine lv_istore (lv' := [(5, .int (nI (0))), (0, .ref z0), (1, .long (ct)), (3, .int (fl)), (4, .int (nI (i)))]) hx hb dX5_mix_138 hl (by decide) rfl (fun ls hl => ?_)
                    have loop140 : ∀ (nF : Nat) (j : Nat), 4 - j < nF → (j ≤ 4) → ∀ (H : Heap) (locs : List Loc), Wd D A s [(z0, .inr (5, [.ref zr, .ref zs, .ref zt, .ref zc, .ref zm, .ref zk, .ref zh, .ref zd, .ref zf, .int (nI (ml)), .ref zp, .int (nI (mps)), .ref za, .ref ze, .int (be), .ref zn, .ref zb, .ref zv, .ref zw, .ref zo, .ref zq, .long (nu), .int (bq), .int (fg), .ref zl, .int (nI (hg)), .int (nI (cz)), .ref zi])), (zn, .inl (cy 0, 8, .inl (cn))), (zb, .inl (cy 0, 16, .inl (bb))), (zv, .inl (cy 0, 16, .inl (r1 (vr (vin cn ct bq fl) bb i) (wr bb i) j))), (zw, .inl (cy 0, 16, .inl (wr bb i))), (zo, .inl (cy 0, 16, .inl (ox))), (zq, .inl (cy 0, 16, .inl (fun k => nI (orN k)))), (za, .inl (cy 0, 8, .inl (stA)))] H locs → ∀ ls : Array Slot, lv_has ls 6 [(0, .ref z0), (1, .long (ct)), (3, .int (fl)), (4, .int (nI (i))), (5, .int (nI (j)))] → W p l e ({ frames := 2, cells := 0, slots := 0, locals := 46 }) s m args below meth c H locs 0 0 Q (F0 m 140 ls []) := by
                      intro nF
                      induction nF with
                      | zero => intro j hf; exact absurd hf (Nat.not_lt_zero _)
                      | succ nF ih140 =>
                        intro j hf hj H locs hW ls hl
                        refine lv_iload hx hb dX5_mix_140 (lv_at hl 4 rfl) ?_
                        refine lv_iconst (v := nI (4)) hx hb dX5_mix_142 (by decide) ?_
                        refine iGe (a := j) (b := 4) (tgt := 176) hx hb dX5_mix_143 (by decide) (by omega) (by omega) (fun h143 => ?_) (fun h143 => ?_)
                        · skip
                          have e9 : j = 4 := by omega
                          rw [e9] at hW
                          refine lv_iconst (v := nI (0)) hx hb dX5_mix_176 (by decide) ?_
                          refine lv_istore (lv' := [(5, .int (nI (0))), (0, .ref z0), (1, .long (ct)), (3, .int (fl)), (4, .int (nI (i)))]) hx hb dX5_mix_177 hl (by decide) rfl (fun ls hl => ?_)
                          have loop179 : ∀ (nF : Nat) (j : Nat), 4 - j < nF → (j ≤ 4) → ∀ (H : Heap) (locs : List Loc), Wd D A s [(z0, .inr (5, [.ref zr, .ref zs, .ref zt, .ref zc, .ref zm, .ref zk, .ref zh, .ref zd, .ref zf, .int (nI (ml)), .ref zp, .int (nI (mps)), .ref za, .ref ze, .int (be), .ref zn, .ref zb, .ref zv, .ref zw, .ref zo, .ref zq, .long (nu), .int (bq), .int (fg), .ref zl, .int (nI (hg)), .int (nI (cz)), .ref zi])), (zn, .inl (cy 0, 8, .inl (cn))), (zb, .inl (cy 0, 16, .inl (bb))), (zv, .inl (cy 0, 16, .inl (r2 (r1 (vr (vin cn ct bq fl) bb i) (wr bb i) 4) (wr bb i) j))), (zw, .inl (cy 0, 16, .inl (wr bb i))), (zo, .inl (cy 0, 16, .inl (ox))), (zq, .inl (cy 0, 16, .inl (fun k => nI (orN k)))), (za, .inl (cy 0, 8, .inl (stA)))] H locs → ∀ ls : Array Slot, lv_has ls 6 [(0, .ref z0), (1, .long (ct)), (3, .int (fl)), (4, .int (nI (i))), (5, .int (nI (j)))] → W p l e ({ frames := 2, cells := 0, slots := 0, locals := 46 }) s m args below meth c H locs 0 0 Q (F0 m 179 ls []) := by
                            intro nF
                            induction nF with
                            | zero => intro j hf; exact absurd hf (Nat.not_lt_zero _)
                            | succ nF ih179 =>
                              intro j hf hj H locs hW ls hl
                              refine lv_iload hx hb dX5_mix_179 (lv_at hl 4 rfl) ?_
                              refine lv_iconst (v := nI (4)) hx hb dX5_mix_181 (by decide) ?_
                              refine iGe (a := j) (b := 4) (tgt := 230) hx hb dX5_mix_182 (by decide) (by omega) (by omega) (fun h182 => ?_) (fun h182 => ?_)
                              · skip
                                have e9 : j = 4 := by omega
                                rw [e9] at hW
                                rw [show r2 (r1 (vr (vin cn ct bq fl) bb i) (wr bb i) 4) (wr bb i) 4 = vr (vin cn ct bq fl) bb (i + 1) from r12 _ _] at hW
                                refine lv_iconst (v := nI (0)) hx hb dX5_mix_230 (by decide) ?_
                                refine lv_istore (lv' := [(5, .int (nI (0))), (0, .ref z0), (1, .long (ct)), (3, .int (fl)), (4, .int (nI (i)))]) hx hb dX5_mix_231 hl (by decide) rfl (fun ls hl => ?_)
                                have loop233 : ∀ (nF : Nat) (j : Nat), 16 - j < nF → (j ≤ 16) → ∀ (H : Heap) (locs : List Loc), Wd D A s [(z0, .inr (5, [.ref zr, .ref zs, .ref zt, .ref zc, .ref zm, .ref zk, .ref zh, .ref zd, .ref zf, .int (nI (ml)), .ref zp, .int (nI (mps)), .ref za, .ref ze, .int (be), .ref zn, .ref zb, .ref zv, .ref zw, .ref zo, .ref zq, .long (nu), .int (bq), .int (fg), .ref zl, .int (nI (hg)), .int (nI (cz)), .ref zi])), (zn, .inl (cy 0, 8, .inl (cn))), (zb, .inl (cy 0, 16, .inl (bb))), (zv, .inl (cy 0, 16, .inl (vr (vin cn ct bq fl) bb (i + 1)))), (zw, .inl (cy 0, 16, .inl (wr bb i))), (zo, .inl (cy 0, 16, .inl (apG ox 0 (wr bb i) j))), (zq, .inl (cy 0, 16, .inl (fun k => nI (orN k)))), (za, .inl (cy 0, 8, .inl (stA)))] H locs → ∀ ls : Array Slot, lv_has ls 6 [(0, .ref z0), (1, .long (ct)), (3, .int (fl)), (4, .int (nI (i))), (5, .int (nI (j)))] → W p l e ({ frames := 2, cells := 0, slots := 0, locals := 46 }) s m args below meth c H locs 0 0 Q (F0 m 233 ls []) := by
                                  intro nF
                                  induction nF with
                                  | zero => intro j hf; exact absurd hf (Nat.not_lt_zero _)
                                  | succ nF ih233 =>
                                    intro j hf hj H locs hW ls hl
                                    refine lv_iload hx hb dX5_mix_233 (lv_at hl 4 rfl) ?_
                                    refine lv_bipush (v := nI (16)) hx hb dX5_mix_235 (by decide) ?_
                                    refine iGe (a := j) (b := 16) (tgt := 260) hx hb dX5_mix_237 (by decide) (by omega) (by omega) (fun h237 => ?_) (fun h237 => ?_)
                                    · skip
                                      have e9 : j = 16 := by omega
                                      rw [e9] at hW
                                      have hW := Wd.ext hW 5 rfl (wr bb i) apG_all
                                      refine lv_iconst (v := nI (0)) hx hb dX5_mix_260 (by decide) ?_
                                      refine lv_istore (lv' := [(5, .int (nI (0))), (0, .ref z0), (1, .long (ct)), (3, .int (fl)), (4, .int (nI (i)))]) hx hb dX5_mix_261 hl (by decide) rfl (fun ls hl => ?_)
                                      have loop263 : ∀ (nF : Nat) (j : Nat), 16 - j < nF → (j ≤ 16) → ∀ (H : Heap) (locs : List Loc), Wd D A s [(z0, .inr (5, [.ref zr, .ref zs, .ref zt, .ref zc, .ref zm, .ref zk, .ref zh, .ref zd, .ref zf, .int (nI (ml)), .ref zp, .int (nI (mps)), .ref za, .ref ze, .int (be), .ref zn, .ref zb, .ref zv, .ref zw, .ref zo, .ref zq, .long (nu), .int (bq), .int (fg), .ref zl, .int (nI (hg)), .int (nI (cz)), .ref zi])), (zn, .inl (cy 0, 8, .inl (cn))), (zb, .inl (cy 0, 16, .inl (bb))), (zv, .inl (cy 0, 16, .inl (vr (vin cn ct bq fl) bb (i + 1)))), (zw, .inl (cy 0, 16, .inl (apG (wr bb i) 0 (fun k => wr bb i (orN k)) j))), (zo, .inl (cy 0, 16, .inl (wr bb i))), (zq, .inl (cy 0, 16, .inl (fun k => nI (orN k)))), (za, .inl (cy 0, 8, .inl (stA)))] H locs → ∀ ls : Array Slot, lv_has ls 6 [(0, .ref z0), (1, .long (ct)), (3, .int (fl)), (4, .int (nI (i))), (5, .int (nI (j)))] → W p l e ({ frames := 2, cells := 0, slots := 0, locals := 46 }) s m args below meth c H locs 0 0 Q (F0 m 263 ls []) := by
                                        intro nF
                                        induction nF with
                                        | zero => intro j hf; exact absurd hf (Nat.not_lt_zero _)
                                        | succ nF ih263 =>
                                          intro j hf hj H locs hW ls hl
                                          refine lv_iload hx hb dX5_mix_263 (lv_at hl 4 rfl) ?_
                                          refine lv_bipush (v := nI (16)) hx hb dX5_mix_265 (by decide) ?_
                                          refine iGe (a := j) (b := 16) (tgt := 295) hx hb dX5_mix_267 (by decide) (by omega) (by omega) (fun h267 => ?_) (fun h267 => ?_)
                                          · skip
                                            have e9 : j = 16 := by omega
                                            rw [e9] at hW
                                            have hW := Wd.ext hW 4 rfl (wr bb (i + 1)) apG_all
                                            refine lv_iinc (v := nI (i + 1)) (lv' := [(4, .int (nI (i + 1))), (0, .ref z0), (1, .long (ct)), (3, .int (fl)), (5, .int (nI (j)))]) hx hb dX5_mix_295 hl (k := 3) rfl (nI_1 _) (by decide) rfl (fun ls hl => ?_)
                                            refine lv_goto (tgt := 130) hx hb dX5_mix_298 (by decide) ?_
                                            exact ih130 (i + 1) (wr bb i) (by omega) (by omega) _ _ hW _ (lv_sub hl [1, 2, 3, 0] rfl)
                                          · skip
                                            refine lv_aload_n hx hb dX5_mix_270 rfl (lv_at hl 0 rfl) ?_
                                            refine va_get (D := D) (ci := 5) (v := .ref zw) (C := RX5) (T := TX5) (N := 28) hx hb hts i_X5_mix_X5 hown hK hW.1 0 rfl rfl 18 (by decide) (hts (.fieldLink RX5 56 "TreeHashesModel" "w" "[I") f_X5_mix_4) (fun _ h9 => h9) rfl dX5_mix_271 ?_
                                            refine lv_iload hx hb dX5_mix_274 (lv_at hl 4 rfl) ?_
                                            refine lv_aload_n hx hb dX5_mix_276 rfl (lv_at hl 0 rfl) ?_
                                            refine va_get (D := D) (ci := 5) (v := .ref zo) (C := RX5) (T := TX5) (N := 28) hx hb hts i_X5_mix_X5 hown hK hW.1 0 rfl rfl 19 (by decide) (hts (.fieldLink RX5 59 "TreeHashesModel" "old" "[I") f_X5_mix_5) (fun _ h9 => h9) rfl dX5_mix_277 ?_
                                            refine lv_aload_n hx hb dX5_mix_280 rfl (lv_at hl 0 rfl) ?_
                                            refine va_get (D := D) (ci := 5) (v := .ref zq) (C := RX5) (T := TX5) (N := 28) hx hb hts i_X5_mix_X5 hown hK hW.1 0 rfl rfl 20 (by decide) (hts (.fieldLink RX5 62 "TreeHashesModel" "order" "[I") f_X5_mix_6) (fun _ h9 => h9) rfl dX5_mix_281 ?_
                                            refine lv_iload hx hb dX5_mix_284 (lv_at hl 4 rfl) ?_
                                            refine rI hx hb hK hW 6 rfl (k := j) (by omega) (by omega) dX5_mix_286 ?_
                                            refine tI (x' := nI (orN j)) (rfl) ?_
                                            refine rI hx hb hK hW 5 rfl (k := orN j) (orN_lt _) (by omega) dX5_mix_287 ?_
                                            refine wI hx hb hK hW 4 rfl (k := j) (by omega) (by omega) dX5_mix_288 (fun H locs hW => ?_)
                                            have hW : Wd D A s [(z0, .inr (5, [.ref zr, .ref zs, .ref zt, .ref zc, .ref zm, .ref zk, .ref zh, .ref zd, .ref zf, .int (nI (ml)), .ref zp, .int (nI (mps)), .ref za, .ref ze, .int (be), .ref zn, .ref zb, .ref zv, .ref zw, .ref zo, .ref zq, .long (nu), .int (bq), .int (fg), .ref zl, .int (nI (hg)), .int (nI (cz)), .ref zi])), (zn, .inl (cy 0, 8, .inl (cn))), (zb, .inl (cy 0, 16, .inl (bb))), (zv, .inl (cy 0, 16, .inl (vr (vin cn ct bq fl) bb (i + 1)))), (zw, .inl (cy 0, 16, .inl (upd (apG (wr bb i) 0 (fun k => wr bb i (orN k)) j) j ((wr bb i) (orN j))))), (zo, .inl (cy 0, 16, .inl (wr bb i))), (zq, .inl (cy 0, 16, .inl (fun k => nI (orN k)))), (za, .inl (cy 0, 8, .inl (stA)))] H locs := hW
                                            rw [show (upd (apG (wr bb i) 0 (fun k => wr bb i (orN k)) j) j ((wr bb i) (orN j))) = (apG (wr bb i) 0 (fun k => wr bb i (orN k)) (j + 1)) from by rw [← apG_s (wr bb i) 0 (fun k => wr bb i (orN k)) j, Nat.zero_add]] at hW
                                            have hW : Wd D A s [(z0, .inr (5, [.ref zr, .ref zs, .ref zt, .ref zc, .ref zm, .ref zk, .ref zh, .ref zd, .ref zf, .int (nI (ml)), .ref zp, .int (nI (mps)), .ref za, .ref ze, .int (be), .ref zn, .ref zb, .ref zv, .ref zw, .ref zo, .ref zq, .long (nu), .int (bq), .int (fg), .ref zl, .int (nI (hg)), .int (nI (cz)), .ref zi])), (zn, .inl (cy 0, 8, .inl (cn))), (zb, .inl (cy 0, 16, .inl (bb))), (zv, .inl (cy 0, 16, .inl (vr (vin cn ct bq fl) bb (i + 1)))), (zw, .inl (cy 0, 16, .inl (apG (wr bb i) 0 (fun k => wr bb i (orN k)) (j + 1)))), (zo, .inl (cy 0, 16, .inl (wr bb i))), (zq, .inl (cy 0, 16, .inl (fun k => nI (orN k)))), (za, .inl (cy 0, 8, .inl (stA)))] H locs := hW
                                            refine lv_iinc (v := nI (j + 1)) (lv' := [(5, .int (nI (j + 1))), (0, .ref z0), (1, .long (ct)), (3, .int (fl)), (4, .int (nI (i)))]) hx hb dX5_mix_289 hl (k := 4) rfl (nI_1 _) (by decide) rfl (fun ls hl => ?_)
                                            refine lv_goto (tgt := 263) hx hb dX5_mix_292 (by decide) ?_
                                            exact ih263 (j + 1) (by omega) (by omega) _ _ hW _ (lv_sub hl [1, 2, 3, 4, 0] rfl)
                                      rw [← apG_0 (wr bb i) 0 (fun k => wr bb i (orN k))] at hW
                                      exact loop263 _ 0 (Nat.lt_succ_self _) (by omega) _ _ hW _ (lv_sub hl [1, 2, 3, 4, 0] rfl)
                                    · skip
                                      refine lv_aload_n hx hb dX5_mix_240 rfl (lv_at hl 0 rfl) ?_
                                      refine va_get (D := D) (ci := 5) (v := .ref zo) (C := RX5) (T := TX5) (N := 28) hx hb hts i_X5_mix_X5 hown hK hW.1 0 rfl rfl 19 (by decide) (hts (.fieldLink RX5 59 "TreeHashesModel" "old" "[I") f_X5_mix_5) (fun _ h9 => h9) rfl dX5_mix_241 ?_
                                      refine lv_iload hx hb dX5_mix_244 (lv_at hl 4 rfl) ?_
                                      refine lv_aload_n hx hb dX5_mix_246 rfl (lv_at hl 0 rfl) ?_
                                      refine va_get (D := D) (ci := 5) (v := .ref zw) (C := RX5) (T := TX5) (N := 28) hx hb hts i_X5_mix_X5 hown hK hW.1 0 rfl rfl 18 (by decide) (hts (.fieldLink RX5 56 "TreeHashesModel" "w" "[I") f_X5_mix_4) (fun _ h9 => h9) rfl dX5_mix_247 ?_
                                      refine lv_iload hx hb dX5_mix_250 (lv_at hl 4 rfl) ?_
                                      refine rI hx hb hK hW 4 rfl (k := j) (by omega) (by omega) dX5_mix_252 ?_
                                      refine wI hx hb hK hW 5 rfl (k := j) (by omega) (by omega) dX5_mix_253 (fun H locs hW => ?_)
                                      have hW : Wd D A s [(z0, .inr (5, [.ref zr, .ref zs, .ref zt, .ref zc, .ref zm, .ref zk, .ref zh, .ref zd, .ref zf, .int (nI (ml)), .ref zp, .int (nI (mps)), .ref za, .ref ze, .int (be), .ref zn, .ref zb, .ref zv, .ref zw, .ref zo, .ref zq, .long (nu), .int (bq), .int (fg), .ref zl, .int (nI (hg)), .int (nI (cz)), .ref zi])), (zn, .inl (cy 0, 8, .inl (cn))), (zb, .inl (cy 0, 16, .inl (bb))), (zv, .inl (cy 0, 16, .inl (vr (vin cn ct bq fl) bb (i + 1)))), (zw, .inl (cy 0, 16, .inl (wr bb i))), (zo, .inl (cy 0, 16, .inl (upd (apG ox 0 (wr bb i) j) j ((wr bb i) j)))), (zq, .inl (cy 0, 16, .inl (fun k => nI (orN k)))), (za, .inl (cy 0, 8, .inl (stA)))] H locs := hW
                                      rw [show (upd (apG ox 0 (wr bb i) j) j ((wr bb i) j)) = (apG ox 0 (wr bb i) (j + 1)) from by rw [← apG_s ox 0 (wr bb i) j, Nat.zero_add]] at hW
                                      have hW : Wd D A s [(z0, .inr (5, [.ref zr, .ref zs, .ref zt, .ref zc, .ref zm, .ref zk, .ref zh, .ref zd, .ref zf, .int (nI (ml)), .ref zp, .int (nI (mps)), .ref za, .ref ze, .int (be), .ref zn, .ref zb, .ref zv, .ref zw, .ref zo, .ref zq, .long (nu), .int (bq), .int (fg), .ref zl, .int (nI (hg)), .int (nI (cz)), .ref zi])), (zn, .inl (cy 0, 8, .inl (cn))), (zb, .inl (cy 0, 16, .inl (bb))), (zv, .inl (cy 0, 16, .inl (vr (vin cn ct bq fl) bb (i + 1)))), (zw, .inl (cy 0, 16, .inl (wr bb i))), (zo, .inl (cy 0, 16, .inl (apG ox 0 (wr bb i) (j + 1)))), (zq, .inl (cy 0, 16, .inl (fun k => nI (orN k)))), (za, .inl (cy 0, 8, .inl (stA)))] H locs := hW
                                      refine lv_iinc (v := nI (j + 1)) (lv' := [(5, .int (nI (j + 1))), (0, .ref z0), (1, .long (ct)), (3, .int (fl)), (4, .int (nI (i)))]) hx hb dX5_mix_254 hl (k := 4) rfl (nI_1 _) (by decide) rfl (fun ls hl => ?_)
                                      refine lv_goto (tgt := 233) hx hb dX5_mix_257 (by decide) ?_
                                      exact ih233 (j + 1) (by omega) (by omega) _ _ hW _ (lv_sub hl [1, 2, 3, 4, 0] rfl)
                                rw [← apG_0 ox 0 (wr bb i)] at hW
                                exact loop233 _ 0 (Nat.lt_succ_self _) (by omega) _ _ hW _ (lv_sub hl [1, 2, 3, 4, 0] rfl)
                              · skip
                                refine lv_aload_n hx hb dX5_mix_185 rfl (lv_at hl 0 rfl) ?_
                                refine lv_iload hx hb dX5_mix_186 (lv_at hl 4 rfl) ?_
                                refine lv_iconst (v := nI (4)) hx hb dX5_mix_188 (by decide) ?_
                                refine lv_iload hx hb dX5_mix_189 (lv_at hl 4 rfl) ?_
                                refine lv_iconst (v := nI (1)) hx hb dX5_mix_191 (by decide) ?_
                                refine lv_iadd hx hb dX5_mix_192 ?_
                                refine tI (nI_add _ _) ?_
                                refine lv_iconst (v := nI (4)) hx hb dX5_mix_193 (by decide) ?_
                                refine lv_irem hx hb dX5_mix_194 (by decide) ?_
                                refine tI (pk_rem (by omega) (by omega) (by omega)) ?_
                                refine lv_iadd hx hb dX5_mix_195 ?_
                                refine tI (nI_add _ _) ?_
                                refine lv_bipush (v := nI (8)) hx hb dX5_mix_196 (by decide) ?_
                                refine lv_iload hx hb dX5_mix_198 (lv_at hl 4 rfl) ?_
                                refine lv_iconst (v := nI (2)) hx hb dX5_mix_200 (by decide) ?_
                                refine lv_iadd hx hb dX5_mix_201 ?_
                                refine tI (nI_add _ _) ?_
                                refine lv_iconst (v := nI (4)) hx hb dX5_mix_202 (by decide) ?_
                                refine lv_irem hx hb dX5_mix_203 (by decide) ?_
                                refine tI (pk_rem (by omega) (by omega) (by omega)) ?_
                                refine lv_iadd hx hb dX5_mix_204 ?_
                                refine tI (nI_add _ _) ?_
                                refine lv_bipush (v := nI (12)) hx hb dX5_mix_205 (by decide) ?_
                                refine lv_iload hx hb dX5_mix_207 (lv_at hl 4 rfl) ?_
                                refine lv_iconst (v := nI (3)) hx hb dX5_mix_209 (by decide) ?_
                                refine lv_iadd hx hb dX5_mix_210 ?_
                                refine tI (nI_add _ _) ?_
                                refine lv_iconst (v := nI (4)) hx hb dX5_mix_211 (by decide) ?_
                                refine lv_irem hx hb dX5_mix_212 (by decide) ?_
                                refine tI (pk_rem (by omega) (by omega) (by omega)) ?_
                                refine lv_iadd hx hb dX5_mix_213 ?_
                                refine tI (nI_add _ _) ?_
                                refine lv_bipush (v := nI (8)) hx hb dX5_mix_214 (by decide) ?_
                                refine lv_iconst (v := nI (2)) hx hb dX5_mix_216 (by decide) ?_
                                refine lv_iload hx hb dX5_mix_217 (lv_at hl 4 rfl) ?_
                                refine lv_imul hx hb dX5_mix_219 ?_
                                refine tI (pk_mul _ _) ?_
                                refine lv_iadd hx hb dX5_mix_220 ?_
                                refine tI (nI_add _ _) ?_
                                refine kVv (As := [.int (nI (j)), .int (nI (4 + ((j + 1) % 4))), .int (nI (8 + ((j + 2) % 4))), .int (nI (12 + ((j + 3) % 4))), .int (nI (8 + (2 * j)))]) (rest := []) S0 hK hst hA hW [0, 3, 4] (fun sz => c_X5_turn l D cy t z0 zr zs zt zc zm zk zh zd zf ml zp mps za ze be zn zb zv zw zo zq nu bq fg zl hg cz zi (r2 (r1 (vr (vin cn ct bq fl) bb i) (wr bb i) 4) (wr bb i) j) (wr bb i) j (4 + ((j + 1) % 4)) (8 + ((j + 2) % 4)) (12 + ((j + 3) % 4)) (8 + (2 * j)) (by omega) (by omega) (by omega) (by omega) (by omega) (by omega) (by omega) (by omega) (by omega) (by omega) (by omega) sz) rfl (by decide) (cwV 5 hts gX5_mix_X5_turn rfl rfl rfl (by decide +kernel) ⟨Nat.le_of_ble_eq_true rfl, Nat.le_of_ble_eq_true rfl⟩) (fun _ => rfl) 0 5 rfl rfl rfl hl.1 rfl (Nat.le_of_ble_eq_true rfl) dX5_mix_221 ⟨Nat.le_of_ble_eq_true rfl, Nat.le_of_ble_eq_true rfl⟩ (fun u221 H locs p221 hW => ?_)
                                have hW : Wd D A s [(z0, .inr (5, [.ref zr, .ref zs, .ref zt, .ref zc, .ref zm, .ref zk, .ref zh, .ref zd, .ref zf, .int (nI (ml)), .ref zp, .int (nI (mps)), .ref za, .ref ze, .int (be), .ref zn, .ref zb, .ref zv, .ref zw, .ref zo, .ref zq, .long (nu), .int (bq), .int (fg), .ref zl, .int (nI (hg)), .int (nI (cz)), .ref zi])), (zn, .inl (cy 0, 8, .inl (cn))), (zb, .inl (cy 0, 16, .inl (bb))), (zv, .inl (cy 0, 16, .inl (tn (r2 (r1 (vr (vin cn ct bq fl) bb i) (wr bb i) 4) (wr bb i) j) j (4 + ((j + 1) % 4)) (8 + ((j + 2) % 4)) (12 + ((j + 3) % 4)) ((wr bb i) (8 + (2 * j))) ((wr bb i) ((8 + (2 * j)) + 1))))), (zw, .inl (cy 0, 16, .inl ((wr bb i)))), (zo, .inl (cy 0, 16, .inl (ox))), (zq, .inl (cy 0, 16, .inl (fun k => nI (orN k)))), (za, .inl (cy 0, 8, .inl (stA)))] H locs := hW
                                rw [show (tn (r2 (r1 (vr (vin cn ct bq fl) bb i) (wr bb i) 4) (wr bb i) j) j (4 + ((j + 1) % 4)) (8 + ((j + 2) % 4)) (12 + ((j + 3) % 4)) ((wr bb i) (8 + (2 * j))) ((wr bb i) ((8 + (2 * j)) + 1))) = (r2 (r1 (vr (vin cn ct bq fl) bb i) (wr bb i) 4) (wr bb i) (j + 1)) from rfl] at hW
                                have hW : Wd D A s [(z0, .inr (5, [.ref zr, .ref zs, .ref zt, .ref zc, .ref zm, .ref zk, .ref zh, .ref zd, .ref zf, .int (nI (ml)), .ref zp, .int (nI (mps)), .ref za, .ref ze, .int (be), .ref zn, .ref zb, .ref zv, .ref zw, .ref zo, .ref zq, .long (nu), .int (bq), .int (fg), .ref zl, .int (nI (hg)), .int (nI (cz)), .ref zi])), (zn, .inl (cy 0, 8, .inl (cn))), (zb, .inl (cy 0, 16, .inl (bb))), (zv, .inl (cy 0, 16, .inl (r2 (r1 (vr (vin cn ct bq fl) bb i) (wr bb i) 4) (wr bb i) (j + 1)))), (zw, .inl (cy 0, 16, .inl ((wr bb i)))), (zo, .inl (cy 0, 16, .inl (ox))), (zq, .inl (cy 0, 16, .inl (fun k => nI (orN k)))), (za, .inl (cy 0, 8, .inl (stA)))] H locs := hW
                                refine lv_iinc (v := nI (j + 1)) (lv' := [(5, .int (nI (j + 1))), (0, .ref z0), (1, .long (ct)), (3, .int (fl)), (4, .int (nI (i)))]) hx hb dX5_mix_224 hl (k := 4) rfl (nI_1 _) (by decide) rfl (fun ls hl => ?_)
                                refine lv_goto (tgt := 179) hx hb dX5_mix_227 (by decide) ?_
                                exact ih179 (j + 1) (by omega) (by omega) _ _ hW _ (lv_sub hl [1, 2, 3, 4, 0] rfl)
                          exact loop179 _ 0 (Nat.lt_succ_self _) (by omega) _ _ hW _ (lv_sub hl [1, 2, 3, 4, 0] rfl)
                        · skip
                          refine lv_aload_n hx hb dX5_mix_146 rfl (lv_at hl 0 rfl) ?_
                          refine lv_iload hx hb dX5_mix_147 (lv_at hl 4 rfl) ?_
                          refine lv_iconst (v := nI (4)) hx hb dX5_mix_149 (by decide) ?_
                          refine lv_iload hx hb dX5_mix_150 (lv_at hl 4 rfl) ?_
                          refine lv_iadd hx hb dX5_mix_152 ?_
                          refine tI (nI_add _ _) ?_
                          refine lv_bipush (v := nI (8)) hx hb dX5_mix_153 (by decide) ?_
                          refine lv_iload hx hb dX5_mix_155 (lv_at hl 4 rfl) ?_
                          refine lv_iadd hx hb dX5_mix_157 ?_
                          refine tI (nI_add _ _) ?_
                          refine lv_bipush (v := nI (12)) hx hb dX5_mix_158 (by decide) ?_
                          refine lv_iload hx hb dX5_mix_160 (lv_at hl 4 rfl) ?_
                          refine lv_iadd hx hb dX5_mix_162 ?_
                          refine tI (nI_add _ _) ?_
                          refine lv_iconst (v := nI (2)) hx hb dX5_mix_163 (by decide) ?_
                          refine lv_iload hx hb dX5_mix_164 (lv_at hl 4 rfl) ?_
                          refine lv_imul hx hb dX5_mix_166 ?_
                          refine tI (pk_mul _ _) ?_
                          refine kVv (As := [.int (nI (j)), .int (nI (4 + j)), .int (nI (8 + j)), .int (nI (12 + j)), .int (nI (2 * j))]) (rest := []) S0 hK hst hA hW [0, 3, 4] (fun sz => c_X5_turn l D cy t z0 zr zs zt zc zm zk zh zd zf ml zp mps za ze be zn zb zv zw zo zq nu bq fg zl hg cz zi (r1 (vr (vin cn ct bq fl) bb i) (wr bb i) j) (wr bb i) j (4 + j) (8 + j) (12 + j) (2 * j) (by omega) (by omega) (by omega) (by omega) (by omega) (by omega) (by omega) (by omega) (by omega) (by omega) (by omega) sz) rfl (by decide) (cwV 5 hts gX5_mix_X5_turn rfl rfl rfl (by decide +kernel) ⟨Nat.le_of_ble_eq_true rfl, Nat.le_of_ble_eq_true rfl⟩) (fun _ => rfl) 0 5 rfl rfl rfl hl.1 rfl (Nat.le_of_ble_eq_true rfl) dX5_mix_167 ⟨Nat.le_of_ble_eq_true rfl, Nat.le_of_ble_eq_true rfl⟩ (fun u167 H locs p167 hW => ?_)
                          have hW : Wd D A s [(z0, .inr (5, [.ref zr, .ref zs, .ref zt, .ref zc, .ref zm, .ref zk, .ref zh, .ref zd, .ref zf, .int (nI (ml)), .ref zp, .int (nI (mps)), .ref za, .ref ze, .int (be), .ref zn, .ref zb, .ref zv, .ref zw, .ref zo, .ref zq, .long (nu), .int (bq), .int (fg), .ref zl, .int (nI (hg)), .int (nI (cz)), .ref zi])), (zn, .inl (cy 0, 8, .inl (cn))), (zb, .inl (cy 0, 16, .inl (bb))), (zv, .inl (cy 0, 16, .inl (tn (r1 (vr (vin cn ct bq fl) bb i) (wr bb i) j) j (4 + j) (8 + j) (12 + j) ((wr bb i) (2 * j)) ((wr bb i) ((2 * j) + 1))))), (zw, .inl (cy 0, 16, .inl ((wr bb i)))), (zo, .inl (cy 0, 16, .inl (ox))), (zq, .inl (cy 0, 16, .inl (fun k => nI (orN k)))), (za, .inl (cy 0, 8, .inl (stA)))] H locs := hW
                          rw [show (tn (r1 (vr (vin cn ct bq fl) bb i) (wr bb i) j) j (4 + j) (8 + j) (12 + j) ((wr bb i) (2 * j)) ((wr bb i) ((2 * j) + 1))) = (r1 (vr (vin cn ct bq fl) bb i) (wr bb i) (j + 1)) from rfl] at hW
                          have hW : Wd D A s [(z0, .inr (5, [.ref zr, .ref zs, .ref zt, .ref zc, .ref zm, .ref zk, .ref zh, .ref zd, .ref zf, .int (nI (ml)), .ref zp, .int (nI (mps)), .ref za, .ref ze, .int (be), .ref zn, .ref zb, .ref zv, .ref zw, .ref zo, .ref zq, .long (nu), .int (bq), .int (fg), .ref zl, .int (nI (hg)), .int (nI (cz)), .ref zi])), (zn, .inl (cy 0, 8, .inl (cn))), (zb, .inl (cy 0, 16, .inl (bb))), (zv, .inl (cy 0, 16, .inl (r1 (vr (vin cn ct bq fl) bb i) (wr bb i) (j + 1)))), (zw, .inl (cy 0, 16, .inl ((wr bb i)))), (zo, .inl (cy 0, 16, .inl (ox))), (zq, .inl (cy 0, 16, .inl (fun k => nI (orN k)))), (za, .inl (cy 0, 8, .inl (stA)))] H locs := hW
                          refine lv_iinc (v := nI (j + 1)) (lv' := [(5, .int (nI (j + 1))), (0, .ref z0), (1, .long (ct)), (3, .int (fl)), (4, .int (nI (i)))]) hx hb dX5_mix_170 hl (k := 4) rfl (nI_1 _) (by decide) rfl (fun ls hl => ?_)
                          refine lv_goto (tgt := 140) hx hb dX5_mix_173 (by decide) ?_
                          exact ih140 (j + 1) (by omega) (by omega) _ _ hW _ (lv_sub hl [1, 2, 3, 4, 0] rfl)
                    exact loop140 _ 0 (Nat.lt_succ_self _) (by omega) _ _ hW _ (lv_sub hl [1, 2, 3, 4, 0] rfl)
              exact loop130 _ 0 oo (Nat.lt_succ_self _) (by omega) _ _ hW _ (lv_sub hl [1, 2, 3, 0] rfl)
            · skip
              refine lv_aload_n hx hb dX5_mix_107 rfl (lv_at hl 0 rfl) ?_
              refine va_get (D := D) (ci := 5) (v := .ref zw) (C := RX5) (T := TX5) (N := 28) hx hb hts i_X5_mix_X5 hown hK hW.1 0 rfl rfl 18 (by decide) (hts (.fieldLink RX5 56 "TreeHashesModel" "w" "[I") f_X5_mix_4) (fun _ h9 => h9) rfl dX5_mix_108 ?_
              refine lv_iload hx hb dX5_mix_111 (lv_at hl 3 rfl) ?_
              refine lv_aload_n hx hb dX5_mix_113 rfl (lv_at hl 0 rfl) ?_
              refine va_get (D := D) (ci := 5) (v := .ref zb) (C := RX5) (T := TX5) (N := 28) hx hb hts i_X5_mix_X5 hown hK hW.1 0 rfl rfl 16 (by decide) (hts (.fieldLink RX5 50 "TreeHashesModel" "block" "[I") f_X5_mix_7) (fun _ h9 => h9) rfl dX5_mix_114 ?_
              refine lv_iload hx hb dX5_mix_117 (lv_at hl 3 rfl) ?_
              refine rI hx hb hK hW 2 rfl (k := i) (by omega) (by omega) dX5_mix_119 ?_
              refine wI hx hb hK hW 4 rfl (k := i) (by omega) (by omega) dX5_mix_120 (fun H locs hW => ?_)
              have hW : Wd D A s [(z0, .inr (5, [.ref zr, .ref zs, .ref zt, .ref zc, .ref zm, .ref zk, .ref zh, .ref zd, .ref zf, .int (nI (ml)), .ref zp, .int (nI (mps)), .ref za, .ref ze, .int (be), .ref zn, .ref zb, .ref zv, .ref zw, .ref zo, .ref zq, .long (nu), .int (bq), .int (fg), .ref zl, .int (nI (hg)), .int (nI (cz)), .ref zi])), (zn, .inl (cy 0, 8, .inl (cn))), (zb, .inl (cy 0, 16, .inl (bb))), (zv, .inl (cy 0, 16, .inl ((vin cn ct bq fl)))), (zw, .inl (cy 0, 16, .inl (upd (apG ww 0 bb i) i (bb i)))), (zo, .inl (cy 0, 16, .inl (oo))), (zq, .inl (cy 0, 16, .inl (fun k => nI (orN k)))), (za, .inl (cy 0, 8, .inl (stA)))] H locs := hW
              rw [show (upd (apG ww 0 bb i) i (bb i)) = (apG ww 0 bb (i + 1)) from by rw [← apG_s ww 0 bb i, Nat.zero_add]] at hW
              have hW : Wd D A s [(z0, .inr (5, [.ref zr, .ref zs, .ref zt, .ref zc, .ref zm, .ref zk, .ref zh, .ref zd, .ref zf, .int (nI (ml)), .ref zp, .int (nI (mps)), .ref za, .ref ze, .int (be), .ref zn, .ref zb, .ref zv, .ref zw, .ref zo, .ref zq, .long (nu), .int (bq), .int (fg), .ref zl, .int (nI (hg)), .int (nI (cz)), .ref zi])), (zn, .inl (cy 0, 8, .inl (cn))), (zb, .inl (cy 0, 16, .inl (bb))), (zv, .inl (cy 0, 16, .inl ((vin cn ct bq fl)))), (zw, .inl (cy 0, 16, .inl (apG ww 0 bb (i + 1)))), (zo, .inl (cy 0, 16, .inl (oo))), (zq, .inl (cy 0, 16, .inl (fun k => nI (orN k)))), (za, .inl (cy 0, 8, .inl (stA)))] H locs := hW
              refine lv_iinc (v := nI (i + 1)) (lv' := [(4, .int (nI (i + 1))), (0, .ref z0), (1, .long (ct)), (3, .int (fl))]) hx hb dX5_mix_121 hl (k := 3) rfl (nI_1 _) (by decide) rfl (fun ls hl => ?_)
              refine lv_goto (tgt := 100) hx hb dX5_mix_124 (by decide) ?_
              exact ih100 (i + 1) (by omega) (by omega) _ _ hW _ (lv_sub hl [1, 2, 3, 0] rfl)
        rw [← apG_0 ww 0 bb] at hW
        exact loop100 _ 0 (Nat.lt_succ_self _) (by omega) _ _ hW _ (lv_sub hl [1, 2, 3, 0] rfl)
      · skip
        refine lv_aload_n hx hb dX5_mix_10 rfl (lv_at hl 0 rfl) ?_
        refine va_get (D := D) (ci := 5) (v := .ref zv) (C := RX5) (T := TX5) (N := 28) hx hb hts i_X5_mix_X5 hown hK hW.1 0 rfl rfl 17 (by decide) (hts (.fieldLink RX5 53 "TreeHashesModel" "v" "[I") f_X5_mix_0) (fun _ h9 => h9) rfl dX5_mix_11 ?_
        refine lv_iload hx hb dX5_mix_14 (lv_at hl 3 rfl) ?_
        refine lv_aload_n hx hb dX5_mix_16 rfl (lv_at hl 0 rfl) ?_
        refine va_get (D := D) (ci := 5) (v := .ref zn) (C := RX5) (T := TX5) (N := 28) hx hb hts i_X5_mix_X5 hown hK hW.1 0 rfl rfl 15 (by decide) (hts (.fieldLink RX5 47 "TreeHashesModel" "chain" "[I") f_X5_mix_3) (fun _ h9 => h9) rfl dX5_mix_17 ?_
        refine lv_iload hx hb dX5_mix_20 (lv_at hl 3 rfl) ?_
        refine rI hx hb hK hW 1 rfl (k := i) (by omega) (by omega) dX5_mix_22 ?_
        refine wI hx hb hK hW 3 rfl (k := i) (by omega) (by omega) dX5_mix_23 (fun H locs hW => ?_)
        have hW : Wd D A s [(z0, .inr (5, [.ref zr, .ref zs, .ref zt, .ref zc, .ref zm, .ref zk, .ref zh, .ref zd, .ref zf, .int (nI (ml)), .ref zp, .int (nI (mps)), .ref za, .ref ze, .int (be), .ref zn, .ref zb, .ref zv, .ref zw, .ref zo, .ref zq, .long (nu), .int (bq), .int (fg), .ref zl, .int (nI (hg)), .int (nI (cz)), .ref zi])), (zn, .inl (cy 0, 8, .inl (cn))), (zb, .inl (cy 0, 16, .inl (bb))), (zv, .inl (cy 0, 16, .inl (upd (jnI vv cn stZ i) i (cn i)))), (zw, .inl (cy 0, 16, .inl (ww))), (zo, .inl (cy 0, 16, .inl (oo))), (zq, .inl (cy 0, 16, .inl (fun k => nI (orN k)))), (za, .inl (cy 0, 8, .inl (stA)))] H locs := hW
        refine lv_aload_n hx hb dX5_mix_24 rfl (lv_at hl 0 rfl) ?_
        refine va_get (D := D) (ci := 5) (v := .ref zv) (C := RX5) (T := TX5) (N := 28) hx hb hts i_X5_mix_X5 hown hK hW.1 0 rfl rfl 17 (by decide) (hts (.fieldLink RX5 53 "TreeHashesModel" "v" "[I") f_X5_mix_0) (fun _ h9 => h9) rfl dX5_mix_25 ?_
        refine lv_bipush (v := nI (8)) hx hb dX5_mix_28 (by decide) ?_
        refine lv_iload hx hb dX5_mix_30 (lv_at hl 3 rfl) ?_
        refine lv_iadd hx hb dX5_mix_32 ?_
        refine tI (nI_add _ _) ?_
        refine lv_iload hx hb dX5_mix_33 (lv_at hl 3 rfl) ?_
        refine lv_iconst (v := nI (4)) hx hb dX5_mix_35 (by decide) ?_
        refine iGe (a := i) (b := 4) (tgt := 49) hx hb dX5_mix_36 (by decide) (by omega) (by omega) (fun h36 => ?_) (fun h36 => ?_)
        · skip
          refine lv_iconst (v := nI (0)) hx hb dX5_mix_49 (by decide) ?_
          refine tI (x' := stZ i) ((if_neg (Nat.not_lt.mpr h36)).symm) ?_
          refine wI hx hb hK hW 3 rfl (k := 8 + i) (by omega) (by omega) dX5_mix_50 (fun H locs hW => ?_)
          have hW : Wd D A s [(z0, .inr (5, [.ref zr, .ref zs, .ref zt, .ref zc, .ref zm, .ref zk, .ref zh, .ref zd, .ref zf, .int (nI (ml)), .ref zp, .int (nI (mps)), .ref za, .ref ze, .int (be), .ref zn, .ref zb, .ref zv, .ref zw, .ref zo, .ref zq, .long (nu), .int (bq), .int (fg), .ref zl, .int (nI (hg)), .int (nI (cz)), .ref zi])), (zn, .inl (cy 0, 8, .inl (cn))), (zb, .inl (cy 0, 16, .inl (bb))), (zv, .inl (cy 0, 16, .inl (upd (upd (jnI vv cn stZ i) i (cn i)) (8 + i) (stZ i)))), (zw, .inl (cy 0, 16, .inl (ww))), (zo, .inl (cy 0, 16, .inl (oo))), (zq, .inl (cy 0, 16, .inl (fun k => nI (orN k)))), (za, .inl (cy 0, 8, .inl (stA)))] H locs := hW
          rw [show (upd (upd (jnI vv cn stZ i) i (cn i)) (8 + i) (stZ i)) = (jnI vv cn stZ (i + 1)) from jnI_s vv cn stZ (by omega)] at hW
          have hW : Wd D A s [(z0, .inr (5, [.ref zr, .ref zs, .ref zt, .ref zc, .ref zm, .ref zk, .ref zh, .ref zd, .ref zf, .int (nI (ml)), .ref zp, .int (nI (mps)), .ref za, .ref ze, .int (be), .ref zn, .ref zb, .ref zv, .ref zw, .ref zo, .ref zq, .long (nu), .int (bq), .int (fg), .ref zl, .int (nI (hg)), .int (nI (cz)), .ref zi])), (zn, .inl (cy 0, 8, .inl (cn))), (zb, .inl (cy 0, 16, .inl (bb))), (zv, .inl (cy 0, 16, .inl (jnI vv cn stZ (i + 1)))), (zw, .inl (cy 0, 16, .inl (ww))), (zo, .inl (cy 0, 16, .inl (oo))), (zq, .inl (cy 0, 16, .inl (fun k => nI (orN k)))), (za, .inl (cy 0, 8, .inl (stA)))] H locs := hW
          refine lv_iinc (v := nI (i + 1)) (lv' := [(4, .int (nI (i + 1))), (0, .ref z0), (1, .long (ct)), (3, .int (fl))]) hx hb dX5_mix_51 hl (k := 3) rfl (nI_1 _) (by decide) rfl (fun ls hl => ?_)
          refine lv_goto (tgt := 3) hx hb dX5_mix_54 (by decide) ?_
          exact ih3 (i + 1) (by omega) (by omega) _ _ hW _ (lv_sub hl [1, 2, 3, 0] rfl)
        · skip
          refine lv_aload_n hx hb dX5_mix_39 rfl (lv_at hl 0 rfl) ?_
          refine va_get (D := D) (ci := 5) (v := .ref za) (C := RX5) (T := TX5) (N := 28) hx hb hts i_X5_mix_X5 hown hK hW.1 0 rfl rfl 12 (by decide) (hts (.fieldLink RX5 41 "TreeHashesModel" "start" "[I") f_X5_mix_8) (fun _ h9 => h9) rfl dX5_mix_40 ?_
          refine lv_iload hx hb dX5_mix_43 (lv_at hl 3 rfl) ?_
          refine rI hx hb hK hW 7 rfl (k := i) (by omega) (by omega) dX5_mix_45 ?_
          refine tI (x' := stZ i) ((if_pos h36).symm) ?_
          refine lv_goto (tgt := 50) hx hb dX5_mix_46 (by decide) ?_
          refine wI hx hb hK hW 3 rfl (k := 8 + i) (by omega) (by omega) dX5_mix_50 (fun H locs hW => ?_)
          have hW : Wd D A s [(z0, .inr (5, [.ref zr, .ref zs, .ref zt, .ref zc, .ref zm, .ref zk, .ref zh, .ref zd, .ref zf, .int (nI (ml)), .ref zp, .int (nI (mps)), .ref za, .ref ze, .int (be), .ref zn, .ref zb, .ref zv, .ref zw, .ref zo, .ref zq, .long (nu), .int (bq), .int (fg), .ref zl, .int (nI (hg)), .int (nI (cz)), .ref zi])), (zn, .inl (cy 0, 8, .inl (cn))), (zb, .inl (cy 0, 16, .inl (bb))), (zv, .inl (cy 0, 16, .inl (upd (upd (jnI vv cn stZ i) i (cn i)) (8 + i) (stZ i)))), (zw, .inl (cy 0, 16, .inl (ww))), (zo, .inl (cy 0, 16, .inl (oo))), (zq, .inl (cy 0, 16, .inl (fun k => nI (orN k)))), (za, .inl (cy 0, 8, .inl (stA)))] H locs := hW
          rw [show (upd (upd (jnI vv cn stZ i) i (cn i)) (8 + i) (stZ i)) = (jnI vv cn stZ (i + 1)) from jnI_s vv cn stZ (by omega)] at hW
          have hW : Wd D A s [(z0, .inr (5, [.ref zr, .ref zs, .ref zt, .ref zc, .ref zm, .ref zk, .ref zh, .ref zd, .ref zf, .int (nI (ml)), .ref zp, .int (nI (mps)), .ref za, .ref ze, .int (be), .ref zn, .ref zb, .ref zv, .ref zw, .ref zo, .ref zq, .long (nu), .int (bq), .int (fg), .ref zl, .int (nI (hg)), .int (nI (cz)), .ref zi])), (zn, .inl (cy 0, 8, .inl (cn))), (zb, .inl (cy 0, 16, .inl (bb))), (zv, .inl (cy 0, 16, .inl (jnI vv cn stZ (i + 1)))), (zw, .inl (cy 0, 16, .inl (ww))), (zo, .inl (cy 0, 16, .inl (oo))), (zq, .inl (cy 0, 16, .inl (fun k => nI (orN k)))), (za, .inl (cy 0, 8, .inl (stA)))] H locs := hW
          refine lv_iinc (v := nI (i + 1)) (lv' := [(4, .int (nI (i + 1))), (0, .ref z0), (1, .long (ct)), (3, .int (fl))]) hx hb dX5_mix_51 hl (k := 3) rfl (nI_1 _) (by decide) rfl (fun ls hl => ?_)
          refine lv_goto (tgt := 3) hx hb dX5_mix_54 (by decide) ?_
          exact ih3 (i + 1) (by omega) (by omega) _ _ hW _ (lv_sub hl [1, 2, 3, 0] rfl)
  rw [← jnI_0 vv cn stZ] at hW
  exact loop3 _ 0 (Nat.lt_succ_self _) (by omega) _ _ hW _ (lv_sub hl [1, 2, 3, 0] rfl)

theorem f_X5_mixIn_0 : Cond.fieldLink RX5 100 "TreeHashesModel" "number" "J" ∈ wsX5_mixIn := by decide +kernel
theorem i_X5_mixIn_X5 : ∀ w ∈ wsX50, w ∈ wsX5_mixIn := by decide +kernel
theorem f_X5_mixIn_2 : Cond.fieldLink RX5 104 "TreeHashesModel" "flags" "I" ∈ wsX5_mixIn := by decide +kernel
theorem f_X5_mixIn_3 : Cond.fieldLink RX5 47 "TreeHashesModel" "chain" "[I" ∈ wsX5_mixIn := by decide +kernel
theorem f_X5_mixIn_4 : Cond.fieldLink RX5 53 "TreeHashesModel" "v" "[I" ∈ wsX5_mixIn := by decide +kernel
set_option maxHeartbeats 4000000 in
set_option maxRecDepth 100000 in
theorem c_X5_mixIn (l : Launch) (D : va_G) (cy : Nat → ClassId) (t : Nat × Nat) (z0 : Nat) (zr : Nat) (zs : Nat) (zt : Nat) (zc : Nat) (zm : Nat) (zk : Nat) (zh : Nat) (zd : Nat) (zf : Nat) (ml : Nat) (zp : Nat) (mps : Nat) (za : Nat) (ze : Nat) (be : Int32) (zn : Nat) (zb : Nat) (zv : Nat) (zw : Nat) (zo : Nat) (zq : Nat) (nu : Int64) (bq : Int32) (fg : Int32) (zl : Nat) (hg : Nat) (cz : Nat) (zi : Nat) (cn : Nat → Int32) (bb : Nat → Int32) (vv : Nat → Int32) (ww : Nat → Int32) (oo : Nat → Int32)  (sz : Nat) : Met l yX5_mixIn wsX5_mixIn ({ frames := 3, cells := 0, slots := 0, locals := 71 }) (PcW D cy t [(z0, .inr (5, [.ref zr, .ref zs, .ref zt, .ref zc, .ref zm, .ref zk, .ref zh, .ref zd, .ref zf, .int (nI (ml)), .ref zp, .int (nI (mps)), .ref za, .ref ze, .int (be), .ref zn, .ref zb, .ref zv, .ref zw, .ref zo, .ref zq, .long (nu), .int (bq), .int (fg), .ref zl, .int (nI (hg)), .int (nI (cz)), .ref zi])), (zn, .inl (cy 0, 8, .inl (cn))), (zb, .inl (cy 0, 16, .inl (bb))), (zv, .inl (cy 0, 16, .inl (vv))), (zw, .inl (cy 0, 16, .inl (ww))), (zo, .inl (cy 0, 16, .inl (oo))), (zq, .inl (cy 0, 16, .inl (fun k => nI (orN k)))), (za, .inl (cy 0, 8, .inl (stA)))] [.ref z0] sz) (QvA D cy (fun u : (Nat → Int32) × (Nat → Int32) => match u with | (ww2, oo2) => True) (fun u : (Nat → Int32) × (Nat → Int32) => match u with | (ww2, oo2) => [(z0, .inr (5, [.ref zr, .ref zs, .ref zt, .ref zc, .ref zm, .ref zk, .ref zh, .ref zd, .ref zf, .int (nI (ml)), .ref zp, .int (nI (mps)), .ref za, .ref ze, .int (be), .ref zn, .ref zb, .ref zv, .ref zw, .ref zo, .ref zq, .long (nu), .int (bq), .int (fg), .ref zl, .int (nI (hg)), .int (nI (cz)), .ref zi])), (zn, .inl (cy 0, 8, .inl (mixV cn bb nu bq fg))), (zb, .inl (cy 0, 16, .inl (bb))), (zv, .inl (cy 0, 16, .inl (mixV cn bb nu bq fg))), (zw, .inl (cy 0, 16, .inl (ww2))), (zo, .inl (cy 0, 16, .inl (oo2))), (zq, .inl (cy 0, 16, .inl (fun k => nI (orN k)))), (za, .inl (cy 0, 8, .inl (stA)))]) (va_A [(z0, .inr (5, [.ref zr, .ref zs, .ref zt, .ref zc, .ref zm, .ref zk, .ref zh, .ref zd, .ref zf, .int (nI (ml)), .ref zp, .int (nI (mps)), .ref za, .ref ze, .int (be), .ref zn, .ref zb, .ref zv, .ref zw, .ref zo, .ref zq, .long (nu), .int (bq), .int (fg), .ref zl, .int (nI (hg)), .int (nI (cz)), .ref zi])), (zn, .inl (cy 0, 8, .inl (cn))), (zb, .inl (cy 0, 16, .inl (bb))), (zv, .inl (cy 0, 16, .inl (vv))), (zw, .inl (cy 0, 16, .inl (ww))), (zo, .inl (cy 0, 16, .inl (oo))), (zq, .inl (cy 0, 16, .inl (fun k => nI (orN k)))), (za, .inl (cy 0, 8, .inl (stA)))] sz)) 0 0 (va_A [(z0, .inr (5, [.ref zr, .ref zs, .ref zt, .ref zc, .ref zm, .ref zk, .ref zh, .ref zd, .ref zf, .int (nI (ml)), .ref zp, .int (nI (mps)), .ref za, .ref ze, .int (be), .ref zn, .ref zb, .ref zv, .ref zw, .ref zo, .ref zq, .long (nu), .int (bq), .int (fg), .ref zl, .int (nI (hg)), .int (nI (cz)), .ref zi])), (zn, .inl (cy 0, 8, .inl (cn))), (zb, .inl (cy 0, 16, .inl (bb))), (zv, .inl (cy 0, 16, .inl (vv))), (zw, .inl (cy 0, 16, .inl (ww))), (zo, .inl (cy 0, 16, .inl (oo))), (zq, .inl (cy 0, 16, .inl (fun k => nI (orN k)))), (za, .inl (cy 0, 8, .inl (stA)))] sz) := by
  refine M_ofW (cc := cX5_mixIn) (maxL := 2) (ret := none) (by decide) rfl (Nat.le_of_ble_eq_true rfl) ?_
  intro p e s m below meth c A ls args Q hQ S0 hr hlocks hnm hK hst hA hW hl
  have hx := S0.1; have hb := S0.2.1; have hml := S0.2.2.1; have hown := S0.2.2.2.1; have hts := S0.2.2.2.2
  have hl : lv_has ls 2 [(0, .ref z0)] := hl
  refine lv_aload_n hx hb dX5_mixIn_0 rfl (lv_at hl 0 rfl) ?_
  refine lv_aload_n hx hb dX5_mixIn_1 rfl (lv_at hl 0 rfl) ?_
  refine va_get (D := D) (ci := 5) (v := .long (nu)) (C := RX5) (T := TX5) (N := 28) hx hb hts i_X5_mixIn_X5 hown hK hW.1 0 rfl rfl 21 (by decide) (hts (.fieldLink RX5 100 "TreeHashesModel" "number" "J") f_X5_mixIn_0) (fun _ h9 => h9) rfl dX5_mixIn_2 ?_
  refine lv_aload_n hx hb dX5_mixIn_5 rfl (lv_at hl 0 rfl) ?_
  refine va_get (D := D) (ci := 5) (v := .int (fg)) (C := RX5) (T := TX5) (N := 28) hx hb hts i_X5_mixIn_X5 hown hK hW.1 0 rfl rfl 23 (by decide) (hts (.fieldLink RX5 104 "TreeHashesModel" "flags" "I") f_X5_mixIn_2) (fun _ h9 => h9) rfl dX5_mixIn_6 ?_
  refine kVv (As := [.long (nu), .int (fg)]) (rest := []) S0 hK hst hA hW [0, 1, 2, 3, 4, 5, 6, 7] (fun sz => c_X5_mix l D cy t z0 zr zs zt zc zm zk zh zd zf ml zp mps za ze be zn zb zv zw zo zq nu bq fg zl hg cz zi cn bb vv ww oo nu fg  sz) rfl (by decide) (cwV 2 hts gX5_mixIn_X5_mix rfl rfl rfl (by decide +kernel) ⟨Nat.le_of_ble_eq_true rfl, Nat.le_of_ble_eq_true rfl⟩) (fun ⟨_, _⟩ => rfl) 0 5 rfl rfl rfl hl.1 rfl (Nat.le_of_ble_eq_true rfl) dX5_mixIn_9 ⟨Nat.le_of_ble_eq_true rfl, Nat.le_of_ble_eq_true rfl⟩ (fun u9 H locs p9 hW => ?_)
  obtain ⟨ww2_9, oo2_9⟩ := u9
  have hW : Wd D A s [(z0, .inr (5, [.ref zr, .ref zs, .ref zt, .ref zc, .ref zm, .ref zk, .ref zh, .ref zd, .ref zf, .int (nI (ml)), .ref zp, .int (nI (mps)), .ref za, .ref ze, .int (be), .ref zn, .ref zb, .ref zv, .ref zw, .ref zo, .ref zq, .long (nu), .int (bq), .int (fg), .ref zl, .int (nI (hg)), .int (nI (cz)), .ref zi])), (zn, .inl (cy 0, 8, .inl (cn))), (zb, .inl (cy 0, 16, .inl (bb))), (zv, .inl (cy 0, 16, .inl (mixV cn bb nu bq fg))), (zw, .inl (cy 0, 16, .inl (ww2_9))), (zo, .inl (cy 0, 16, .inl (oo2_9))), (zq, .inl (cy 0, 16, .inl (fun k => nI (orN k)))), (za, .inl (cy 0, 8, .inl (stA)))] H locs := hW
  refine lv_iconst (v := nI (0)) hx hb dX5_mixIn_12 (by decide) ?_
  refine lv_istore_n (lv' := [(1, .int (nI (0))), (0, .ref z0)]) hx hb dX5_mixIn_13 rfl hl (by decide) rfl (fun ls hl => ?_)
  have loop14 : ∀ (nF : Nat) (i : Nat), 8 - i < nF → (i ≤ 8) → ∀ (H : Heap) (locs : List Loc), Wd D A s [(z0, .inr (5, [.ref zr, .ref zs, .ref zt, .ref zc, .ref zm, .ref zk, .ref zh, .ref zd, .ref zf, .int (nI (ml)), .ref zp, .int (nI (mps)), .ref za, .ref ze, .int (be), .ref zn, .ref zb, .ref zv, .ref zw, .ref zo, .ref zq, .long (nu), .int (bq), .int (fg), .ref zl, .int (nI (hg)), .int (nI (cz)), .ref zi])), (zn, .inl (cy 0, 8, .inl (apG cn 0 (mixV cn bb nu bq fg) i))), (zb, .inl (cy 0, 16, .inl (bb))), (zv, .inl (cy 0, 16, .inl (mixV cn bb nu bq fg))), (zw, .inl (cy 0, 16, .inl (ww2_9))), (zo, .inl (cy 0, 16, .inl (oo2_9))), (zq, .inl (cy 0, 16, .inl (fun k => nI (orN k)))), (za, .inl (cy 0, 8, .inl (stA)))] H locs → ∀ ls : Array Slot, lv_has ls 2 [(0, .ref z0), (1, .int (nI (i)))] → W p l e ({ frames := 3, cells := 0, slots := 0, locals := 71 }) s m args below meth c H locs 0 0 Q (F0 m 14 ls []) := by
    intro nF
    induction nF with
    | zero => intro i hf; exact absurd hf (Nat.not_lt_zero _)
    | succ nF ih14 =>
      intro i hf hi H locs hW ls hl
      refine lv_iload_n hx hb dX5_mixIn_14 rfl (lv_at hl 1 rfl) ?_
      refine lv_bipush (v := nI (8)) hx hb dX5_mixIn_15 (by decide) ?_
      refine iGe (a := i) (b := 8) (tgt := 38) hx hb dX5_mixIn_17 (by decide) (by omega) (by omega) (fun h17 => ?_) (fun h17 => ?_)
      · skip
        have e9 : i = 8 := by omega
        rw [e9] at hW
        have hW := Wd.ext hW 1 rfl (mixV cn bb nu bq fg) apG_all
        exact eV hQ hx hb hr hlocks hK hW (ww2_9, oo2_9) (trivial) (rfl) dX5_mixIn_38
      · skip
        refine lv_aload_n hx hb dX5_mixIn_20 rfl (lv_at hl 0 rfl) ?_
        refine va_get (D := D) (ci := 5) (v := .ref zn) (C := RX5) (T := TX5) (N := 28) hx hb hts i_X5_mixIn_X5 hown hK hW.1 0 rfl rfl 15 (by decide) (hts (.fieldLink RX5 47 "TreeHashesModel" "chain" "[I") f_X5_mixIn_3) (fun _ h9 => h9) rfl dX5_mixIn_21 ?_
        refine lv_iload_n hx hb dX5_mixIn_24 rfl (lv_at hl 1 rfl) ?_
        refine lv_aload_n hx hb dX5_mixIn_25 rfl (lv_at hl 0 rfl) ?_
        refine va_get (D := D) (ci := 5) (v := .ref zv) (C := RX5) (T := TX5) (N := 28) hx hb hts i_X5_mixIn_X5 hown hK hW.1 0 rfl rfl 17 (by decide) (hts (.fieldLink RX5 53 "TreeHashesModel" "v" "[I") f_X5_mixIn_4) (fun _ h9 => h9) rfl dX5_mixIn_26 ?_
        refine lv_iload_n hx hb dX5_mixIn_29 rfl (lv_at hl 1 rfl) ?_
        refine rI hx hb hK hW 3 rfl (k := i) (by omega) (by omega) dX5_mixIn_30 ?_
        refine wI hx hb hK hW 1 rfl (k := i) (by omega) (by omega) dX5_mixIn_31 (fun H locs hW => ?_)
        have hW : Wd D A s [(z0, .inr (5, [.ref zr, .ref zs, .ref zt, .ref zc, .ref zm, .ref zk, .ref zh, .ref zd, .ref zf, .int (nI (ml)), .ref zp, .int (nI (mps)), .ref za, .ref ze, .int (be), .ref zn, .ref zb, .ref zv, .ref zw, .ref zo, .ref zq, .long (nu), .int (bq), .int (fg), .ref zl, .int (nI (hg)), .int (nI (cz)), .ref zi])), (zn, .inl (cy 0, 8, .inl (upd (apG cn 0 (mixV cn bb nu bq fg) i) i ((mixV cn bb nu bq fg) i)))), (zb, .inl (cy 0, 16, .inl (bb))), (zv, .inl (cy 0, 16, .inl (mixV cn bb nu bq fg))), (zw, .inl (cy 0, 16, .inl (ww2_9))), (zo, .inl (cy 0, 16, .inl (oo2_9))), (zq, .inl (cy 0, 16, .inl (fun k => nI (orN k)))), (za, .inl (cy 0, 8, .inl (stA)))] H locs := hW
        rw [show (upd (apG cn 0 (mixV cn bb nu bq fg) i) i ((mixV cn bb nu bq fg) i)) = (apG cn 0 (mixV cn bb nu bq fg) (i + 1)) from by rw [← apG_s cn 0 (mixV cn bb nu bq fg) i, Nat.zero_add]] at hW
        have hW : Wd D A s [(z0, .inr (5, [.ref zr, .ref zs, .ref zt, .ref zc, .ref zm, .ref zk, .ref zh, .ref zd, .ref zf, .int (nI (ml)), .ref zp, .int (nI (mps)), .ref za, .ref ze, .int (be), .ref zn, .ref zb, .ref zv, .ref zw, .ref zo, .ref zq, .long (nu), .int (bq), .int (fg), .ref zl, .int (nI (hg)), .int (nI (cz)), .ref zi])), (zn, .inl (cy 0, 8, .inl (apG cn 0 (mixV cn bb nu bq fg) (i + 1)))), (zb, .inl (cy 0, 16, .inl (bb))), (zv, .inl (cy 0, 16, .inl (mixV cn bb nu bq fg))), (zw, .inl (cy 0, 16, .inl (ww2_9))), (zo, .inl (cy 0, 16, .inl (oo2_9))), (zq, .inl (cy 0, 16, .inl (fun k => nI (orN k)))), (za, .inl (cy 0, 8, .inl (stA)))] H locs := hW
        refine lv_iinc (v := nI (i + 1)) (lv' := [(1, .int (nI (i + 1))), (0, .ref z0)]) hx hb dX5_mixIn_32 hl (k := 1) rfl (nI_1 _) (by decide) rfl (fun ls hl => ?_)
        refine lv_goto (tgt := 14) hx hb dX5_mixIn_35 (by decide) ?_
        exact ih14 (i + 1) (by omega) (by omega) _ _ hW _ (lv_sub hl [1, 0] rfl)
  rw [← apG_0 cn 0 (mixV cn bb nu bq fg)] at hW
  exact loop14 _ 0 (Nat.lt_succ_self _) (by omega) _ _ hW _ (lv_sub hl [1, 0] rfl)

theorem f_X5_parent_0 : Cond.fieldLink RX5 117 "TreeHashesModel" "high" "I" ∈ wsX5_parent := by decide +kernel
theorem i_X5_parent_X5 : ∀ w ∈ wsX50, w ∈ wsX5_parent := by decide +kernel
theorem f_X5_parent_2 : Cond.fieldLink RX5 100 "TreeHashesModel" "number" "J" ∈ wsX5_parent := by decide +kernel
theorem f_X5_parent_3 : Cond.fieldLink RX5 92 "TreeHashesModel" "blockLength" "I" ∈ wsX5_parent := by decide +kernel
theorem f_X5_parent_4 : Cond.fieldLink RX5 114 "TreeHashesModel" "base" "I" ∈ wsX5_parent := by decide +kernel
theorem f_X5_parent_5 : Cond.fieldLink RX5 104 "TreeHashesModel" "flags" "I" ∈ wsX5_parent := by decide +kernel
theorem f_X5_parent_6 : Cond.fieldLink RX5 50 "TreeHashesModel" "block" "[I" ∈ wsX5_parent := by decide +kernel
theorem f_X5_parent_7 : Cond.fieldLink RX5 65 "TreeHashesModel" "pile" "[I" ∈ wsX5_parent := by decide +kernel
theorem f_X5_parent_8 : Cond.fieldLink RX5 47 "TreeHashesModel" "chain" "[I" ∈ wsX5_parent := by decide +kernel
theorem f_X5_parent_9 : Cond.fieldLink RX5 44 "TreeHashesModel" "key" "[I" ∈ wsX5_parent := by decide +kernel
set_option maxHeartbeats 4000000 in
set_option maxRecDepth 100000 in
theorem c_X5_parent (l : Launch) (D : va_G) (cy : Nat → ClassId) (t : Nat × Nat) (z0 : Nat) (zr : Nat) (zs : Nat) (zt : Nat) (zc : Nat) (zm : Nat) (zk : Nat) (zh : Nat) (zd : Nat) (zf : Nat) (ml : Nat) (zp : Nat) (mps : Nat) (za : Nat) (ze : Nat) (be : Int32) (zn : Nat) (zb : Nat) (zv : Nat) (zw : Nat) (zo : Nat) (zq : Nat) (nu : Int64) (bq : Int32) (fg : Int32) (zl : Nat) (hg : Nat) (cz : Nat) (zi : Nat) (ke : Nat → Int32) (cn : Nat → Int32) (bb : Nat → Int32) (pp : Nat → Int32) (SS : Nat → Nat → Int32) (hg0 : 0 < hg) (hg12 : hg ≤ 12) (hSq : SKq pp SS hg) (sz : Nat) : Met l yX5_parent wsX5_parent ({ frames := 0, cells := 0, slots := 0, locals := 0 }) (PcW D cy t [(z0, .inr (5, [.ref zr, .ref zs, .ref zt, .ref zc, .ref zm, .ref zk, .ref zh, .ref zd, .ref zf, .int (nI (ml)), .ref zp, .int (nI (mps)), .ref za, .ref ze, .int (be), .ref zn, .ref zb, .ref zv, .ref zw, .ref zo, .ref zq, .long (nu), .int (bq), .int (fg), .ref zl, .int (nI (hg)), .int (nI (cz)), .ref zi])), (ze, .inl (cy 0, 8, .inl (ke))), (zn, .inl (cy 0, 8, .inl (cn))), (zb, .inl (cy 0, 16, .inl (bb))), (zl, .inl (cy 0, 96, .inl (pp)))] [.ref z0] sz) (QvA D cy (fun u : Unit => True) (fun u : Unit => [(z0, .inr (5, [.ref zr, .ref zs, .ref zt, .ref zc, .ref zm, .ref zk, .ref zh, .ref zd, .ref zf, .int (nI (ml)), .ref zp, .int (nI (mps)), .ref za, .ref ze, .int (be), .ref zn, .ref zb, .ref zv, .ref zw, .ref zo, .ref zq, .long (lN 0), .int (nI (64)), .int (be + (nI (4))), .ref zl, .int (nI (hg - 1)), .int (nI (cz)), .ref zi])), (ze, .inl (cy 0, 8, .inl (ke))), (zn, .inl (cy 0, 8, .inl (ke))), (zb, .inl (cy 0, 16, .inl (jn (SS (hg - 1)) cn))), (zl, .inl (cy 0, 96, .inl (pp)))]) (va_A [(z0, .inr (5, [.ref zr, .ref zs, .ref zt, .ref zc, .ref zm, .ref zk, .ref zh, .ref zd, .ref zf, .int (nI (ml)), .ref zp, .int (nI (mps)), .ref za, .ref ze, .int (be), .ref zn, .ref zb, .ref zv, .ref zw, .ref zo, .ref zq, .long (nu), .int (bq), .int (fg), .ref zl, .int (nI (hg)), .int (nI (cz)), .ref zi])), (ze, .inl (cy 0, 8, .inl (ke))), (zn, .inl (cy 0, 8, .inl (cn))), (zb, .inl (cy 0, 16, .inl (bb))), (zl, .inl (cy 0, 96, .inl (pp)))] sz)) 0 0 (va_A [(z0, .inr (5, [.ref zr, .ref zs, .ref zt, .ref zc, .ref zm, .ref zk, .ref zh, .ref zd, .ref zf, .int (nI (ml)), .ref zp, .int (nI (mps)), .ref za, .ref ze, .int (be), .ref zn, .ref zb, .ref zv, .ref zw, .ref zo, .ref zq, .long (nu), .int (bq), .int (fg), .ref zl, .int (nI (hg)), .int (nI (cz)), .ref zi])), (ze, .inl (cy 0, 8, .inl (ke))), (zn, .inl (cy 0, 8, .inl (cn))), (zb, .inl (cy 0, 16, .inl (bb))), (zl, .inl (cy 0, 96, .inl (pp)))] sz) := by
  refine M_ofW (cc := cX5_parent) (maxL := 2) (ret := none) (by decide) rfl (Nat.le_of_ble_eq_true rfl) ?_
  intro p e s m below meth c A ls args Q hQ S0 hr hlocks hnm hK hst hA hW hl
  have hx := S0.1; have hb := S0.2.1; have hml := S0.2.2.1; have hown := S0.2.2.2.1; have hts := S0.2.2.2.2
  have hl : lv_has ls 2 [(0, .ref z0)] := hl
  refine lv_aload_n hx hb dX5_parent_0 rfl (lv_at hl 0 rfl) ?_
  refine lv_dup hx hb dX5_parent_1 rfl ?_
  refine va_get (D := D) (ci := 5) (v := .int (nI (hg))) (C := RX5) (T := TX5) (N := 28) hx hb hts i_X5_parent_X5 hown hK hW.1 0 rfl rfl 25 (by decide) (hts (.fieldLink RX5 117 "TreeHashesModel" "high" "I") f_X5_parent_0) (fun _ h9 => h9) rfl dX5_parent_2 ?_
  refine lv_iconst (v := nI (1)) hx hb dX5_parent_5 (by decide) ?_
  refine lv_isub hx hb dX5_parent_6 ?_
  refine tI (pk_sub (by omega)) ?_
  refine va_put (D := D) (ci := 5) (v := .int (nI (hg - 1))) (ty := .int) (C := RX5) (T := TX5) (N := 28) hx hb hts i_X5_parent_X5 tyX5 tyX5_ok nmX5 hown hK hW.1 hW.2.1 hW.2.2 0 rfl rfl 25 (by decide) (hts (.fieldLink RX5 117 "TreeHashesModel" "high" "I") f_X5_parent_0) (fun _ h9 => h9) rfl (by decide +kernel) rfl rfl (Nat.le_of_ble_eq_true rfl) dX5_parent_7 (fun H locs hP hD hS => ?_)
  have hW : Wd D A s [(z0, .inr (5, [.ref zr, .ref zs, .ref zt, .ref zc, .ref zm, .ref zk, .ref zh, .ref zd, .ref zf, .int (nI (ml)), .ref zp, .int (nI (mps)), .ref za, .ref ze, .int (be), .ref zn, .ref zb, .ref zv, .ref zw, .ref zo, .ref zq, .long (nu), .int (bq), .int (fg), .ref zl, .int (nI (hg - 1)), .int (nI (cz)), .ref zi])), (ze, .inl (cy 0, 8, .inl (ke))), (zn, .inl (cy 0, 8, .inl (cn))), (zb, .inl (cy 0, 16, .inl (bb))), (zl, .inl (cy 0, 96, .inl (pp)))] H locs := ⟨hP, hD, hS⟩
  refine lv_iconst (v := nI (0)) hx hb dX5_parent_10 (by decide) ?_
  refine lv_istore_n (lv' := [(1, .int (nI (0))), (0, .ref z0)]) hx hb dX5_parent_11 rfl hl (by decide) rfl (fun ls hl => ?_)
  have loop12 : ∀ (nF : Nat) (i : Nat), 8 - i < nF → (i ≤ 8) → ∀ (H : Heap) (locs : List Loc), Wd D A s [(z0, .inr (5, [.ref zr, .ref zs, .ref zt, .ref zc, .ref zm, .ref zk, .ref zh, .ref zd, .ref zf, .int (nI (ml)), .ref zp, .int (nI (mps)), .ref za, .ref ze, .int (be), .ref zn, .ref zb, .ref zv, .ref zw, .ref zo, .ref zq, .long (nu), .int (bq), .int (fg), .ref zl, .int (nI (hg - 1)), .int (nI (cz)), .ref zi])), (ze, .inl (cy 0, 8, .inl (ke))), (zn, .inl (cy 0, 8, .inl (apG cn 0 ke i))), (zb, .inl (cy 0, 16, .inl (jnI bb (fun k => pp (8 * (hg - 1) + k)) cn i))), (zl, .inl (cy 0, 96, .inl (pp)))] H locs → ∀ ls : Array Slot, lv_has ls 2 [(0, .ref z0), (1, .int (nI (i)))] → W p l e ({ frames := 0, cells := 0, slots := 0, locals := 0 }) s m args below meth c H locs 0 0 Q (F0 m 12 ls []) := by
    intro nF
    induction nF with
    | zero => intro i hf; exact absurd hf (Nat.not_lt_zero _)
    | succ nF ih12 =>
      intro i hf hi H locs hW ls hl
      refine lv_iload_n hx hb dX5_parent_12 rfl (lv_at hl 1 rfl) ?_
      refine lv_bipush (v := nI (8)) hx hb dX5_parent_13 (by decide) ?_
      refine iGe (a := i) (b := 8) (tgt := 71) hx hb dX5_parent_15 (by decide) (by omega) (by omega) (fun h15 => ?_) (fun h15 => ?_)
      · skip
        have e9 : i = 8 := by omega
        rw [e9] at hW
        have hW := Wd.ext hW 2 rfl ke apG_all
        have hW := Wd.ext hW 3 rfl (jn (SS (hg - 1)) cn) (fun k hk => by rw [jnI_8 k hk]; exact jn_ext (fun k hk => hSq (hg - 1) (by omega) k hk) (fun _ _ => rfl) k hk)
        refine lv_aload_n hx hb dX5_parent_71 rfl (lv_at hl 0 rfl) ?_
        refine lv_lconst (v := lN 0) hx hb dX5_parent_72 (by decide) ?_
        refine va_put (D := D) (ci := 5) (v := .long (lN 0)) (ty := .long) (C := RX5) (T := TX5) (N := 28) hx hb hts i_X5_parent_X5 tyX5 tyX5_ok nmX5 hown hK hW.1 hW.2.1 hW.2.2 0 rfl rfl 21 (by decide) (hts (.fieldLink RX5 100 "TreeHashesModel" "number" "J") f_X5_parent_2) (fun _ h9 => h9) rfl (by decide +kernel) rfl rfl (Nat.le_of_ble_eq_true rfl) dX5_parent_73 (fun H locs hP hD hS => ?_)
        have hW : Wd D A s [(z0, .inr (5, [.ref zr, .ref zs, .ref zt, .ref zc, .ref zm, .ref zk, .ref zh, .ref zd, .ref zf, .int (nI (ml)), .ref zp, .int (nI (mps)), .ref za, .ref ze, .int (be), .ref zn, .ref zb, .ref zv, .ref zw, .ref zo, .ref zq, .long (lN 0), .int (bq), .int (fg), .ref zl, .int (nI (hg - 1)), .int (nI (cz)), .ref zi])), (ze, .inl (cy 0, 8, .inl (ke))), (zn, .inl (cy 0, 8, .inl (ke))), (zb, .inl (cy 0, 16, .inl (jn (SS (hg - 1)) cn))), (zl, .inl (cy 0, 96, .inl (pp)))] H locs := ⟨hP, hD, hS⟩
        refine lv_aload_n hx hb dX5_parent_76 rfl (lv_at hl 0 rfl) ?_
        refine lv_bipush (v := nI (64)) hx hb dX5_parent_77 (by decide) ?_
        refine va_put (D := D) (ci := 5) (v := .int (nI (64))) (ty := .int) (C := RX5) (T := TX5) (N := 28) hx hb hts i_X5_parent_X5 tyX5 tyX5_ok nmX5 hown hK hW.1 hW.2.1 hW.2.2 0 rfl rfl 22 (by decide) (hts (.fieldLink RX5 92 "TreeHashesModel" "blockLength" "I") f_X5_parent_3) (fun _ h9 => h9) rfl (by decide +kernel) rfl rfl (Nat.le_of_ble_eq_true rfl) dX5_parent_79 (fun H locs hP hD hS => ?_)
        have hW : Wd D A s [(z0, .inr (5, [.ref zr, .ref zs, .ref zt, .ref zc, .ref zm, .ref zk, .ref zh, .ref zd, .ref zf, .int (nI (ml)), .ref zp, .int (nI (mps)), .ref za, .ref ze, .int (be), .ref zn, .ref zb, .ref zv, .ref zw, .ref zo, .ref zq, .long (lN 0), .int (nI (64)), .int (fg), .ref zl, .int (nI (hg - 1)), .int (nI (cz)), .ref zi])), (ze, .inl (cy 0, 8, .inl (ke))), (zn, .inl (cy 0, 8, .inl (ke))), (zb, .inl (cy 0, 16, .inl (jn (SS (hg - 1)) cn))), (zl, .inl (cy 0, 96, .inl (pp)))] H locs := ⟨hP, hD, hS⟩
        refine lv_aload_n hx hb dX5_parent_82 rfl (lv_at hl 0 rfl) ?_
        refine lv_aload_n hx hb dX5_parent_83 rfl (lv_at hl 0 rfl) ?_
        refine va_get (D := D) (ci := 5) (v := .int (be)) (C := RX5) (T := TX5) (N := 28) hx hb hts i_X5_parent_X5 hown hK hW.1 0 rfl rfl 14 (by decide) (hts (.fieldLink RX5 114 "TreeHashesModel" "base" "I") f_X5_parent_4) (fun _ h9 => h9) rfl dX5_parent_84 ?_
        refine lv_iconst (v := nI (4)) hx hb dX5_parent_87 (by decide) ?_
        refine lv_iadd hx hb dX5_parent_88 ?_
        refine va_put (D := D) (ci := 5) (v := .int (be + (nI (4)))) (ty := .int) (C := RX5) (T := TX5) (N := 28) hx hb hts i_X5_parent_X5 tyX5 tyX5_ok nmX5 hown hK hW.1 hW.2.1 hW.2.2 0 rfl rfl 23 (by decide) (hts (.fieldLink RX5 104 "TreeHashesModel" "flags" "I") f_X5_parent_5) (fun _ h9 => h9) rfl (by decide +kernel) rfl rfl (Nat.le_of_ble_eq_true rfl) dX5_parent_89 (fun H locs hP hD hS => ?_)
        have hW : Wd D A s [(z0, .inr (5, [.ref zr, .ref zs, .ref zt, .ref zc, .ref zm, .ref zk, .ref zh, .ref zd, .ref zf, .int (nI (ml)), .ref zp, .int (nI (mps)), .ref za, .ref ze, .int (be), .ref zn, .ref zb, .ref zv, .ref zw, .ref zo, .ref zq, .long (lN 0), .int (nI (64)), .int (be + (nI (4))), .ref zl, .int (nI (hg - 1)), .int (nI (cz)), .ref zi])), (ze, .inl (cy 0, 8, .inl (ke))), (zn, .inl (cy 0, 8, .inl (ke))), (zb, .inl (cy 0, 16, .inl (jn (SS (hg - 1)) cn))), (zl, .inl (cy 0, 96, .inl (pp)))] H locs := ⟨hP, hD, hS⟩
        exact eV hQ hx hb hr hlocks hK hW () (trivial) (rfl) dX5_parent_92
      · skip
        refine lv_aload_n hx hb dX5_parent_18 rfl (lv_at hl 0 rfl) ?_
        refine va_get (D := D) (ci := 5) (v := .ref zb) (C := RX5) (T := TX5) (N := 28) hx hb hts i_X5_parent_X5 hown hK hW.1 0 rfl rfl 16 (by decide) (hts (.fieldLink RX5 50 "TreeHashesModel" "block" "[I") f_X5_parent_6) (fun _ h9 => h9) rfl dX5_parent_19 ?_
        refine lv_iload_n hx hb dX5_parent_22 rfl (lv_at hl 1 rfl) ?_
        refine lv_aload_n hx hb dX5_parent_23 rfl (lv_at hl 0 rfl) ?_
        refine va_get (D := D) (ci := 5) (v := .ref zl) (C := RX5) (T := TX5) (N := 28) hx hb hts i_X5_parent_X5 hown hK hW.1 0 rfl rfl 24 (by decide) (hts (.fieldLink RX5 65 "TreeHashesModel" "pile" "[I") f_X5_parent_7) (fun _ h9 => h9) rfl dX5_parent_24 ?_
        refine lv_bipush (v := nI (8)) hx hb dX5_parent_27 (by decide) ?_
        refine lv_aload_n hx hb dX5_parent_29 rfl (lv_at hl 0 rfl) ?_
        refine va_get (D := D) (ci := 5) (v := .int (nI (hg - 1))) (C := RX5) (T := TX5) (N := 28) hx hb hts i_X5_parent_X5 hown hK hW.1 0 rfl rfl 25 (by decide) (hts (.fieldLink RX5 117 "TreeHashesModel" "high" "I") f_X5_parent_0) (fun _ h9 => h9) rfl dX5_parent_30 ?_
        refine lv_imul hx hb dX5_parent_33 ?_
        refine tI (pk_mul _ _) ?_
        refine lv_iload_n hx hb dX5_parent_34 rfl (lv_at hl 1 rfl) ?_
        refine lv_iadd hx hb dX5_parent_35 ?_
        refine tI (nI_add _ _) ?_
        refine rI hx hb hK hW 4 rfl (k := (8 * (hg - 1)) + i) (by omega) (by omega) dX5_parent_36 ?_
        refine wI hx hb hK hW 3 rfl (k := i) (by omega) (by omega) dX5_parent_37 (fun H locs hW => ?_)
        have hW : Wd D A s [(z0, .inr (5, [.ref zr, .ref zs, .ref zt, .ref zc, .ref zm, .ref zk, .ref zh, .ref zd, .ref zf, .int (nI (ml)), .ref zp, .int (nI (mps)), .ref za, .ref ze, .int (be), .ref zn, .ref zb, .ref zv, .ref zw, .ref zo, .ref zq, .long (nu), .int (bq), .int (fg), .ref zl, .int (nI (hg - 1)), .int (nI (cz)), .ref zi])), (ze, .inl (cy 0, 8, .inl (ke))), (zn, .inl (cy 0, 8, .inl (apG cn 0 ke i))), (zb, .inl (cy 0, 16, .inl (upd (jnI bb (fun k => pp (8 * (hg - 1) + k)) cn i) i (pp ((8 * (hg - 1)) + i))))), (zl, .inl (cy 0, 96, .inl (pp)))] H locs := hW
        refine lv_aload_n hx hb dX5_parent_38 rfl (lv_at hl 0 rfl) ?_
        refine va_get (D := D) (ci := 5) (v := .ref zb) (C := RX5) (T := TX5) (N := 28) hx hb hts i_X5_parent_X5 hown hK hW.1 0 rfl rfl 16 (by decide) (hts (.fieldLink RX5 50 "TreeHashesModel" "block" "[I") f_X5_parent_6) (fun _ h9 => h9) rfl dX5_parent_39 ?_
        refine lv_bipush (v := nI (8)) hx hb dX5_parent_42 (by decide) ?_
        refine lv_iload_n hx hb dX5_parent_44 rfl (lv_at hl 1 rfl) ?_
        refine lv_iadd hx hb dX5_parent_45 ?_
        refine tI (nI_add _ _) ?_
        refine lv_aload_n hx hb dX5_parent_46 rfl (lv_at hl 0 rfl) ?_
        refine va_get (D := D) (ci := 5) (v := .ref zn) (C := RX5) (T := TX5) (N := 28) hx hb hts i_X5_parent_X5 hown hK hW.1 0 rfl rfl 15 (by decide) (hts (.fieldLink RX5 47 "TreeHashesModel" "chain" "[I") f_X5_parent_8) (fun _ h9 => h9) rfl dX5_parent_47 ?_
        refine lv_iload_n hx hb dX5_parent_50 rfl (lv_at hl 1 rfl) ?_
        refine rI hx hb hK hW 2 rfl (k := i) (by omega) (by omega) dX5_parent_51 ?_
        refine tI (x' := cn i) (apG_rd) ?_
        refine wI hx hb hK hW 3 rfl (k := 8 + i) (by omega) (by omega) dX5_parent_52 (fun H locs hW => ?_)
        have hW : Wd D A s [(z0, .inr (5, [.ref zr, .ref zs, .ref zt, .ref zc, .ref zm, .ref zk, .ref zh, .ref zd, .ref zf, .int (nI (ml)), .ref zp, .int (nI (mps)), .ref za, .ref ze, .int (be), .ref zn, .ref zb, .ref zv, .ref zw, .ref zo, .ref zq, .long (nu), .int (bq), .int (fg), .ref zl, .int (nI (hg - 1)), .int (nI (cz)), .ref zi])), (ze, .inl (cy 0, 8, .inl (ke))), (zn, .inl (cy 0, 8, .inl (apG cn 0 ke i))), (zb, .inl (cy 0, 16, .inl (upd (upd (jnI bb (fun k => pp (8 * (hg - 1) + k)) cn i) i (pp ((8 * (hg - 1)) + i))) (8 + i) (cn i)))), (zl, .inl (cy 0, 96, .inl (pp)))] H locs := hW
        rw [show (upd (upd (jnI bb (fun k => pp (8 * (hg - 1) + k)) cn i) i (pp ((8 * (hg - 1)) + i))) (8 + i) (cn i)) = (jnI bb (fun k => pp (8 * (hg - 1) + k)) cn (i + 1)) from jnI_s bb (fun k => pp (8 * (hg - 1) + k)) cn (by omega)] at hW
        have hW : Wd D A s [(z0, .inr (5, [.ref zr, .ref zs, .ref zt, .ref zc, .ref zm, .ref zk, .ref zh, .ref zd, .ref zf, .int (nI (ml)), .ref zp, .int (nI (mps)), .ref za, .ref ze, .int (be), .ref zn, .ref zb, .ref zv, .ref zw, .ref zo, .ref zq, .long (nu), .int (bq), .int (fg), .ref zl, .int (nI (hg - 1)), .int (nI (cz)), .ref zi])), (ze, .inl (cy 0, 8, .inl (ke))), (zn, .inl (cy 0, 8, .inl (apG cn 0 ke i))), (zb, .inl (cy 0, 16, .inl (jnI bb (fun k => pp (8 * (hg - 1) + k)) cn (i + 1)))), (zl, .inl (cy 0, 96, .inl (pp)))] H locs := hW
        refine lv_aload_n hx hb dX5_parent_53 rfl (lv_at hl 0 rfl) ?_
        refine va_get (D := D) (ci := 5) (v := .ref zn) (C := RX5) (T := TX5) (N := 28) hx hb hts i_X5_parent_X5 hown hK hW.1 0 rfl rfl 15 (by decide) (hts (.fieldLink RX5 47 "TreeHashesModel" "chain" "[I") f_X5_parent_8) (fun _ h9 => h9) rfl dX5_parent_54 ?_
        refine lv_iload_n hx hb dX5_parent_57 rfl (lv_at hl 1 rfl) ?_
        refine lv_aload_n hx hb dX5_parent_58 rfl (lv_at hl 0 rfl) ?_
        refine va_get (D := D) (ci := 5) (v := .ref ze) (C := RX5) (T := TX5) (N := 28) hx hb hts i_X5_parent_X5 hown hK hW.1 0 rfl rfl 13 (by decide) (hts (.fieldLink RX5 44 "TreeHashesModel" "key" "[I") f_X5_parent_9) (fun _ h9 => h9) rfl dX5_parent_59 ?_
        refine lv_iload_n hx hb dX5_parent_62 rfl (lv_at hl 1 rfl) ?_
        refine rI hx hb hK hW 1 rfl (k := i) (by omega) (by omega) dX5_parent_63 ?_
        refine wI hx hb hK hW 2 rfl (k := i) (by omega) (by omega) dX5_parent_64 (fun H locs hW => ?_)
        have hW : Wd D A s [(z0, .inr (5, [.ref zr, .ref zs, .ref zt, .ref zc, .ref zm, .ref zk, .ref zh, .ref zd, .ref zf, .int (nI (ml)), .ref zp, .int (nI (mps)), .ref za, .ref ze, .int (be), .ref zn, .ref zb, .ref zv, .ref zw, .ref zo, .ref zq, .long (nu), .int (bq), .int (fg), .ref zl, .int (nI (hg - 1)), .int (nI (cz)), .ref zi])), (ze, .inl (cy 0, 8, .inl (ke))), (zn, .inl (cy 0, 8, .inl (upd (apG cn 0 ke i) i (ke i)))), (zb, .inl (cy 0, 16, .inl (jnI bb (fun k => pp (8 * (hg - 1) + k)) cn (i + 1)))), (zl, .inl (cy 0, 96, .inl (pp)))] H locs := hW
        rw [show (upd (apG cn 0 ke i) i (ke i)) = (apG cn 0 ke (i + 1)) from by rw [← apG_s cn 0 ke i, Nat.zero_add]] at hW
        have hW : Wd D A s [(z0, .inr (5, [.ref zr, .ref zs, .ref zt, .ref zc, .ref zm, .ref zk, .ref zh, .ref zd, .ref zf, .int (nI (ml)), .ref zp, .int (nI (mps)), .ref za, .ref ze, .int (be), .ref zn, .ref zb, .ref zv, .ref zw, .ref zo, .ref zq, .long (nu), .int (bq), .int (fg), .ref zl, .int (nI (hg - 1)), .int (nI (cz)), .ref zi])), (ze, .inl (cy 0, 8, .inl (ke))), (zn, .inl (cy 0, 8, .inl (apG cn 0 ke (i + 1)))), (zb, .inl (cy 0, 16, .inl (jnI bb (fun k => pp (8 * (hg - 1) + k)) cn (i + 1)))), (zl, .inl (cy 0, 96, .inl (pp)))] H locs := hW
        refine lv_iinc (v := nI (i + 1)) (lv' := [(1, .int (nI (i + 1))), (0, .ref z0)]) hx hb dX5_parent_65 hl (k := 1) rfl (nI_1 _) (by decide) rfl (fun ls hl => ?_)
        refine lv_goto (tgt := 12) hx hb dX5_parent_68 (by decide) ?_
        exact ih12 (i + 1) (by omega) (by omega) _ _ hW _ (lv_sub hl [1, 0] rfl)
  rw [← apG_0 cn 0 ke, ← jnI_0 bb (fun k => pp (8 * (hg - 1) + k)) cn] at hW
  exact loop12 _ 0 (Nat.lt_succ_self _) (by omega) _ _ hW _ (lv_sub hl [1, 0] rfl)

theorem f_X5_beginPile_0 : Cond.fieldLink RX5 117 "TreeHashesModel" "high" "I" ∈ wsX5_beginPile := by decide +kernel
theorem i_X5_beginPile_X5 : ∀ w ∈ wsX50, w ∈ wsX5_beginPile := by decide +kernel
theorem f_X5_beginPile_2 : Cond.fieldLink RX5 120 "TreeHashesModel" "closed" "I" ∈ wsX5_beginPile := by decide +kernel
set_option maxHeartbeats 4000000 in
set_option maxRecDepth 100000 in
theorem c_X5_beginPile (l : Launch) (D : va_G) (cy : Nat → ClassId) (t : Nat × Nat) (z0 : Nat) (zr : Nat) (zs : Nat) (zt : Nat) (zc : Nat) (zm : Nat) (zk : Nat) (zh : Nat) (zd : Nat) (zf : Nat) (ml : Nat) (zp : Nat) (mps : Nat) (za : Nat) (ze : Nat) (be : Int32) (zn : Nat) (zb : Nat) (zv : Nat) (zw : Nat) (zo : Nat) (zq : Nat) (nu : Int64) (bq : Int32) (fg : Int32) (zl : Nat) (hg : Nat) (cz : Nat) (zi : Nat)  (sz : Nat) : Met l yX5_beginPile wsX5_beginPile ({ frames := 0, cells := 0, slots := 0, locals := 0 }) (PcW D cy t [(z0, .inr (5, [.ref zr, .ref zs, .ref zt, .ref zc, .ref zm, .ref zk, .ref zh, .ref zd, .ref zf, .int (nI (ml)), .ref zp, .int (nI (mps)), .ref za, .ref ze, .int (be), .ref zn, .ref zb, .ref zv, .ref zw, .ref zo, .ref zq, .long (nu), .int (bq), .int (fg), .ref zl, .int (nI (hg)), .int (nI (cz)), .ref zi]))] [.ref z0] sz) (QvA D cy (fun u : Unit => True) (fun u : Unit => [(z0, .inr (5, [.ref zr, .ref zs, .ref zt, .ref zc, .ref zm, .ref zk, .ref zh, .ref zd, .ref zf, .int (nI (ml)), .ref zp, .int (nI (mps)), .ref za, .ref ze, .int (be), .ref zn, .ref zb, .ref zv, .ref zw, .ref zo, .ref zq, .long (nu), .int (bq), .int (fg), .ref zl, .int (nI (0)), .int (nI (0)), .ref zi]))]) (va_A [(z0, .inr (5, [.ref zr, .ref zs, .ref zt, .ref zc, .ref zm, .ref zk, .ref zh, .ref zd, .ref zf, .int (nI (ml)), .ref zp, .int (nI (mps)), .ref za, .ref ze, .int (be), .ref zn, .ref zb, .ref zv, .ref zw, .ref zo, .ref zq, .long (nu), .int (bq), .int (fg), .ref zl, .int (nI (hg)), .int (nI (cz)), .ref zi]))] sz)) 0 0 (va_A [(z0, .inr (5, [.ref zr, .ref zs, .ref zt, .ref zc, .ref zm, .ref zk, .ref zh, .ref zd, .ref zf, .int (nI (ml)), .ref zp, .int (nI (mps)), .ref za, .ref ze, .int (be), .ref zn, .ref zb, .ref zv, .ref zw, .ref zo, .ref zq, .long (nu), .int (bq), .int (fg), .ref zl, .int (nI (hg)), .int (nI (cz)), .ref zi]))] sz) := by
  refine M_ofW (cc := cX5_beginPile) (maxL := 1) (ret := none) (by decide) rfl (Nat.le_of_ble_eq_true rfl) ?_
  intro p e s m below meth c A ls args Q hQ S0 hr hlocks hnm hK hst hA hW hl
  have hx := S0.1; have hb := S0.2.1; have hml := S0.2.2.1; have hown := S0.2.2.2.1; have hts := S0.2.2.2.2
  have hl : lv_has ls 1 [(0, .ref z0)] := hl
  refine lv_aload_n hx hb dX5_beginPile_0 rfl (lv_at hl 0 rfl) ?_
  refine lv_iconst (v := nI (0)) hx hb dX5_beginPile_1 (by decide) ?_
  refine va_put (D := D) (ci := 5) (v := .int (nI (0))) (ty := .int) (C := RX5) (T := TX5) (N := 28) hx hb hts i_X5_beginPile_X5 tyX5 tyX5_ok nmX5 hown hK hW.1 hW.2.1 hW.2.2 0 rfl rfl 25 (by decide) (hts (.fieldLink RX5 117 "TreeHashesModel" "high" "I") f_X5_beginPile_0) (fun _ h9 => h9) rfl (by decide +kernel) rfl rfl (Nat.le_of_ble_eq_true rfl) dX5_beginPile_2 (fun H locs hP hD hS => ?_)
  have hW : Wd D A s [(z0, .inr (5, [.ref zr, .ref zs, .ref zt, .ref zc, .ref zm, .ref zk, .ref zh, .ref zd, .ref zf, .int (nI (ml)), .ref zp, .int (nI (mps)), .ref za, .ref ze, .int (be), .ref zn, .ref zb, .ref zv, .ref zw, .ref zo, .ref zq, .long (nu), .int (bq), .int (fg), .ref zl, .int (nI (0)), .int (nI (cz)), .ref zi]))] H locs := ⟨hP, hD, hS⟩
  refine lv_aload_n hx hb dX5_beginPile_5 rfl (lv_at hl 0 rfl) ?_
  refine lv_iconst (v := nI (0)) hx hb dX5_beginPile_6 (by decide) ?_
  refine va_put (D := D) (ci := 5) (v := .int (nI (0))) (ty := .int) (C := RX5) (T := TX5) (N := 28) hx hb hts i_X5_beginPile_X5 tyX5 tyX5_ok nmX5 hown hK hW.1 hW.2.1 hW.2.2 0 rfl rfl 26 (by decide) (hts (.fieldLink RX5 120 "TreeHashesModel" "closed" "I") f_X5_beginPile_2) (fun _ h9 => h9) rfl (by decide +kernel) rfl rfl (Nat.le_of_ble_eq_true rfl) dX5_beginPile_7 (fun H locs hP hD hS => ?_)
  have hW : Wd D A s [(z0, .inr (5, [.ref zr, .ref zs, .ref zt, .ref zc, .ref zm, .ref zk, .ref zh, .ref zd, .ref zf, .int (nI (ml)), .ref zp, .int (nI (mps)), .ref za, .ref ze, .int (be), .ref zn, .ref zb, .ref zv, .ref zw, .ref zo, .ref zq, .long (nu), .int (bq), .int (fg), .ref zl, .int (nI (0)), .int (nI (0)), .ref zi]))] H locs := ⟨hP, hD, hS⟩
  exact eV hQ hx hb hr hlocks hK hW () (trivial) (rfl) dX5_beginPile_10

theorem f_X5_closedOf_0 : Cond.fieldLink RX5 20 "TreeHashesModel" "count" "[I" ∈ wsX5_closedOf := by decide +kernel
theorem i_X5_closedOf_X5 : ∀ w ∈ wsX50, w ∈ wsX5_closedOf := by decide +kernel
set_option maxHeartbeats 4000000 in
set_option maxRecDepth 100000 in
theorem c_X5_closedOf (l : Launch) (D : va_G) (cy : Nat → ClassId) (t : Nat × Nat) (z0 : Nat) (zr : Nat) (zs : Nat) (zt : Nat) (zc : Nat) (zm : Nat) (zk : Nat) (zh : Nat) (zd : Nat) (zf : Nat) (ml : Nat) (zp : Nat) (mps : Nat) (za : Nat) (ze : Nat) (be : Int32) (zn : Nat) (zb : Nat) (zv : Nat) (zw : Nat) (zo : Nat) (zq : Nat) (nu : Int64) (bq : Int32) (fg : Int32) (zl : Nat) (hg : Nat) (cz : Nat) (zi : Nat) (mcn : Nat → Int32) (hj : Nat) (nt : Nat) (hj4 : hj < 4) (hct : mcn hj = nI nt) (hnt : nt ≤ 40000) (sz : Nat) : Met l yX5_closedOf wsX5_closedOf ({ frames := 0, cells := 0, slots := 0, locals := 0 }) (PcW D cy t [(z0, .inr (5, [.ref zr, .ref zs, .ref zt, .ref zc, .ref zm, .ref zk, .ref zh, .ref zd, .ref zf, .int (nI (ml)), .ref zp, .int (nI (mps)), .ref za, .ref ze, .int (be), .ref zn, .ref zb, .ref zv, .ref zw, .ref zo, .ref zq, .long (nu), .int (bq), .int (fg), .ref zl, .int (nI (hg)), .int (nI (cz)), .ref zi])), (zc, .inl (cy 0, 4, .inl (mcn)))] [.ref z0, .int (nI (hj))] sz) (QiA D cy (fun (r : Int32) (u : Unit) => (r = nI (clo nt))) (fun u : Unit => [(z0, .inr (5, [.ref zr, .ref zs, .ref zt, .ref zc, .ref zm, .ref zk, .ref zh, .ref zd, .ref zf, .int (nI (ml)), .ref zp, .int (nI (mps)), .ref za, .ref ze, .int (be), .ref zn, .ref zb, .ref zv, .ref zw, .ref zo, .ref zq, .long (nu), .int (bq), .int (fg), .ref zl, .int (nI (hg)), .int (nI (cz)), .ref zi])), (zc, .inl (cy 0, 4, .inl (mcn)))]) (va_A [(z0, .inr (5, [.ref zr, .ref zs, .ref zt, .ref zc, .ref zm, .ref zk, .ref zh, .ref zd, .ref zf, .int (nI (ml)), .ref zp, .int (nI (mps)), .ref za, .ref ze, .int (be), .ref zn, .ref zb, .ref zv, .ref zw, .ref zo, .ref zq, .long (nu), .int (bq), .int (fg), .ref zl, .int (nI (hg)), .int (nI (cz)), .ref zi])), (zc, .inl (cy 0, 4, .inl (mcn)))] sz)) 0 0 (va_A [(z0, .inr (5, [.ref zr, .ref zs, .ref zt, .ref zc, .ref zm, .ref zk, .ref zh, .ref zd, .ref zf, .int (nI (ml)), .ref zp, .int (nI (mps)), .ref za, .ref ze, .int (be), .ref zn, .ref zb, .ref zv, .ref zw, .ref zo, .ref zq, .long (nu), .int (bq), .int (fg), .ref zl, .int (nI (hg)), .int (nI (cz)), .ref zi])), (zc, .inl (cy 0, 4, .inl (mcn)))] sz) := by
  refine M_ofW (cc := cX5_closedOf) (maxL := 2) (ret := (some .int)) (by decide) rfl (Nat.le_of_ble_eq_true rfl) ?_
  intro p e s m below meth c A ls args Q hQ S0 hr hlocks hnm hK hst hA hW hl
  have hx := S0.1; have hb := S0.2.1; have hml := S0.2.2.1; have hown := S0.2.2.2.1; have hts := S0.2.2.2.2
  have hl : lv_has ls 2 [(0, .ref z0), (1, .int (nI (hj)))] := hl
  refine lv_aload_n hx hb dX5_closedOf_0 rfl (lv_at hl 0 rfl) ?_
  refine va_get (D := D) (ci := 5) (v := .ref zc) (C := RX5) (T := TX5) (N := 28) hx hb hts i_X5_closedOf_X5 hown hK hW.1 0 rfl rfl 3 (by decide) (hts (.fieldLink RX5 20 "TreeHashesModel" "count" "[I") f_X5_closedOf_0) (fun _ h9 => h9) rfl dX5_closedOf_1 ?_
  refine lv_iload_n hx hb dX5_closedOf_4 rfl (lv_at hl 1 rfl) ?_
  refine rI hx hb hK hW 1 rfl (k := hj) (by omega) (by omega) dX5_closedOf_5 ?_
  refine tI (x' := nI (nt)) (hct) ?_
  refine zNe (a := nt) (tgt := 13) hx hb dX5_closedOf_6 (by decide) (by omega) (fun h6 => ?_) (fun h6 => ?_)
  · skip
    refine lv_aload_n hx hb dX5_closedOf_13 rfl (lv_at hl 0 rfl) ?_
    refine va_get (D := D) (ci := 5) (v := .ref zc) (C := RX5) (T := TX5) (N := 28) hx hb hts i_X5_closedOf_X5 hown hK hW.1 0 rfl rfl 3 (by decide) (hts (.fieldLink RX5 20 "TreeHashesModel" "count" "[I") f_X5_closedOf_0) (fun _ h9 => h9) rfl dX5_closedOf_14 ?_
    refine lv_iload_n hx hb dX5_closedOf_17 rfl (lv_at hl 1 rfl) ?_
    refine rI hx hb hK hW 1 rfl (k := hj) (by omega) (by omega) dX5_closedOf_18 ?_
    refine tI (x' := nI (nt)) (hct) ?_
    refine lv_iconst (v := nI (1)) hx hb dX5_closedOf_19 (by decide) ?_
    refine lv_isub hx hb dX5_closedOf_20 ?_
    refine tI (pk_sub (by omega)) ?_
    refine lv_sipush (v := nI (1024)) hx hb dX5_closedOf_21 (by decide) ?_
    refine lv_idiv hx hb dX5_closedOf_24 (by decide) ?_
    refine tI (pk_div (by omega) (by omega) (by omega)) ?_
    exact eI hQ hx hb hr hlocks hK hW () (rfl) (rfl) dX5_closedOf_25
  · skip
    refine lv_iconst (v := nI (0)) hx hb dX5_closedOf_9 (by decide) ?_
    refine lv_goto (tgt := 25) hx hb dX5_closedOf_10 (by decide) ?_
    exact eI hQ hx hb hr hlocks hK hW () (by rw [h6]; rfl) (rfl) dX5_closedOf_25

theorem f_X5_plain_0 : Cond.fieldLink RX5 26 "TreeHashesModel" "keys" "[I" ∈ wsX5_plain := by decide +kernel
theorem i_X5_plain_X5 : ∀ w ∈ wsX50, w ∈ wsX5_plain := by decide +kernel
theorem f_X5_plain_2 : Cond.fieldLink RX5 41 "TreeHashesModel" "start" "[I" ∈ wsX5_plain := by decide +kernel
set_option maxHeartbeats 4000000 in
set_option maxRecDepth 100000 in
theorem c_X5_plain (l : Launch) (D : va_G) (cy : Nat → ClassId) (t : Nat × Nat) (z0 : Nat) (zr : Nat) (zs : Nat) (zt : Nat) (zc : Nat) (zm : Nat) (zk : Nat) (zh : Nat) (zd : Nat) (zf : Nat) (ml : Nat) (zp : Nat) (mps : Nat) (za : Nat) (ze : Nat) (be : Int32) (zn : Nat) (zb : Nat) (zv : Nat) (zw : Nat) (zo : Nat) (zq : Nat) (nu : Int64) (bq : Int32) (fg : Int32) (zl : Nat) (hg : Nat) (cz : Nat) (zi : Nat) (mk : Nat → Int32) (hj : Nat) (hj4 : hj < 4) (sz : Nat) : Met l yX5_plain wsX5_plain ({ frames := 0, cells := 0, slots := 0, locals := 0 }) (PcW D cy t [(z0, .inr (5, [.ref zr, .ref zs, .ref zt, .ref zc, .ref zm, .ref zk, .ref zh, .ref zd, .ref zf, .int (nI (ml)), .ref zp, .int (nI (mps)), .ref za, .ref ze, .int (be), .ref zn, .ref zb, .ref zv, .ref zw, .ref zo, .ref zq, .long (nu), .int (bq), .int (fg), .ref zl, .int (nI (hg)), .int (nI (cz)), .ref zi])), (zk, .inl (cy 0, 32, .inl (mk))), (za, .inl (cy 0, 8, .inl (stA)))] [.ref z0, .int (nI (hj))] sz) (QvA D cy (fun u : Unit => True) (fun u : Unit => [(z0, .inr (5, [.ref zr, .ref zs, .ref zt, .ref zc, .ref zm, .ref zk, .ref zh, .ref zd, .ref zf, .int (nI (ml)), .ref zp, .int (nI (mps)), .ref za, .ref ze, .int (be), .ref zn, .ref zb, .ref zv, .ref zw, .ref zo, .ref zq, .long (nu), .int (bq), .int (fg), .ref zl, .int (nI (hg)), .int (nI (cz)), .ref zi])), (zk, .inl (cy 0, 32, .inl (apG mk (8 * hj) stA 8))), (za, .inl (cy 0, 8, .inl (stA)))]) (va_A [(z0, .inr (5, [.ref zr, .ref zs, .ref zt, .ref zc, .ref zm, .ref zk, .ref zh, .ref zd, .ref zf, .int (nI (ml)), .ref zp, .int (nI (mps)), .ref za, .ref ze, .int (be), .ref zn, .ref zb, .ref zv, .ref zw, .ref zo, .ref zq, .long (nu), .int (bq), .int (fg), .ref zl, .int (nI (hg)), .int (nI (cz)), .ref zi])), (zk, .inl (cy 0, 32, .inl (mk))), (za, .inl (cy 0, 8, .inl (stA)))] sz)) 0 0 (va_A [(z0, .inr (5, [.ref zr, .ref zs, .ref zt, .ref zc, .ref zm, .ref zk, .ref zh, .ref zd, .ref zf, .int (nI (ml)), .ref zp, .int (nI (mps)), .ref za, .ref ze, .int (be), .ref zn, .ref zb, .ref zv, .ref zw, .ref zo, .ref zq, .long (nu), .int (bq), .int (fg), .ref zl, .int (nI (hg)), .int (nI (cz)), .ref zi])), (zk, .inl (cy 0, 32, .inl (mk))), (za, .inl (cy 0, 8, .inl (stA)))] sz) := by
  refine M_ofW (cc := cX5_plain) (maxL := 3) (ret := none) (by decide) rfl (Nat.le_of_ble_eq_true rfl) ?_
  intro p e s m below meth c A ls args Q hQ S0 hr hlocks hnm hK hst hA hW hl
  have hx := S0.1; have hb := S0.2.1; have hml := S0.2.2.1; have hown := S0.2.2.2.1; have hts := S0.2.2.2.2
  have hl : lv_has ls 3 [(0, .ref z0), (1, .int (nI (hj)))] := hl
  refine lv_iconst (v := nI (0)) hx hb dX5_plain_0 (by decide) ?_
  refine lv_istore_n (lv' := [(2, .int (nI (0))), (0, .ref z0), (1, .int (nI (hj)))]) hx hb dX5_plain_1 rfl hl (by decide) rfl (fun ls hl => ?_)
  have loop2 : ∀ (nF : Nat) (i : Nat), 8 - i < nF → (i ≤ 8) → ∀ (H : Heap) (locs : List Loc), Wd D A s [(z0, .inr (5, [.ref zr, .ref zs, .ref zt, .ref zc, .ref zm, .ref zk, .ref zh, .ref zd, .ref zf, .int (nI (ml)), .ref zp, .int (nI (mps)), .ref za, .ref ze, .int (be), .ref zn, .ref zb, .ref zv, .ref zw, .ref zo, .ref zq, .long (nu), .int (bq), .int (fg), .ref zl, .int (nI (hg)), .int (nI (cz)), .ref zi])), (zk, .inl (cy 0, 32, .inl (apG mk (8 * hj) stA i))), (za, .inl (cy 0, 8, .inl (stA)))] H locs → ∀ ls : Array Slot, lv_has ls 3 [(0, .ref z0), (1, .int (nI (hj))), (2, .int (nI (i)))] → W p l e ({ frames := 0, cells := 0, slots := 0, locals := 0 }) s m args below meth c H locs 0 0 Q (F0 m 2 ls []) := by
    intro nF
    induction nF with
    | zero => intro i hf; exact absurd hf (Nat.not_lt_zero _)
    | succ nF ih2 =>
      intro i hf hi H locs hW ls hl
      refine lv_iload_n hx hb dX5_plain_2 rfl (lv_at hl 2 rfl) ?_
      refine lv_bipush (v := nI (8)) hx hb dX5_plain_3 (by decide) ?_
      refine iGe (a := i) (b := 8) (tgt := 31) hx hb dX5_plain_5 (by decide) (by omega) (by omega) (fun h5 => ?_) (fun h5 => ?_)
      · skip
        have e9 : i = 8 := by omega
        rw [e9] at hW
        exact eV hQ hx hb hr hlocks hK hW () (trivial) (rfl) dX5_plain_31
      · skip
        refine lv_aload_n hx hb dX5_plain_8 rfl (lv_at hl 0 rfl) ?_
        refine va_get (D := D) (ci := 5) (v := .ref zk) (C := RX5) (T := TX5) (N := 28) hx hb hts i_X5_plain_X5 hown hK hW.1 0 rfl rfl 5 (by decide) (hts (.fieldLink RX5 26 "TreeHashesModel" "keys" "[I") f_X5_plain_0) (fun _ h9 => h9) rfl dX5_plain_9 ?_
        refine lv_bipush (v := nI (8)) hx hb dX5_plain_12 (by decide) ?_
        refine lv_iload_n hx hb dX5_plain_14 rfl (lv_at hl 1 rfl) ?_
        refine lv_imul hx hb dX5_plain_15 ?_
        refine tI (pk_mul _ _) ?_
        refine lv_iload_n hx hb dX5_plain_16 rfl (lv_at hl 2 rfl) ?_
        refine lv_iadd hx hb dX5_plain_17 ?_
        refine tI (nI_add _ _) ?_
        refine lv_aload_n hx hb dX5_plain_18 rfl (lv_at hl 0 rfl) ?_
        refine va_get (D := D) (ci := 5) (v := .ref za) (C := RX5) (T := TX5) (N := 28) hx hb hts i_X5_plain_X5 hown hK hW.1 0 rfl rfl 12 (by decide) (hts (.fieldLink RX5 41 "TreeHashesModel" "start" "[I") f_X5_plain_2) (fun _ h9 => h9) rfl dX5_plain_19 ?_
        refine lv_iload_n hx hb dX5_plain_22 rfl (lv_at hl 2 rfl) ?_
        refine rI hx hb hK hW 2 rfl (k := i) (by omega) (by omega) dX5_plain_23 ?_
        refine wI hx hb hK hW 1 rfl (k := (8 * hj) + i) (by omega) (by omega) dX5_plain_24 (fun H locs hW => ?_)
        have hW : Wd D A s [(z0, .inr (5, [.ref zr, .ref zs, .ref zt, .ref zc, .ref zm, .ref zk, .ref zh, .ref zd, .ref zf, .int (nI (ml)), .ref zp, .int (nI (mps)), .ref za, .ref ze, .int (be), .ref zn, .ref zb, .ref zv, .ref zw, .ref zo, .ref zq, .long (nu), .int (bq), .int (fg), .ref zl, .int (nI (hg)), .int (nI (cz)), .ref zi])), (zk, .inl (cy 0, 32, .inl (upd (apG mk (8 * hj) stA i) ((8 * hj) + i) (stA i)))), (za, .inl (cy 0, 8, .inl (stA)))] H locs := hW
        rw [show (upd (apG mk (8 * hj) stA i) ((8 * hj) + i) (stA i)) = (apG mk (8 * hj) stA (i + 1)) from apG_s mk (8 * hj) stA i] at hW
        have hW : Wd D A s [(z0, .inr (5, [.ref zr, .ref zs, .ref zt, .ref zc, .ref zm, .ref zk, .ref zh, .ref zd, .ref zf, .int (nI (ml)), .ref zp, .int (nI (mps)), .ref za, .ref ze, .int (be), .ref zn, .ref zb, .ref zv, .ref zw, .ref zo, .ref zq, .long (nu), .int (bq), .int (fg), .ref zl, .int (nI (hg)), .int (nI (cz)), .ref zi])), (zk, .inl (cy 0, 32, .inl (apG mk (8 * hj) stA (i + 1)))), (za, .inl (cy 0, 8, .inl (stA)))] H locs := hW
        refine lv_iinc (v := nI (i + 1)) (lv' := [(2, .int (nI (i + 1))), (0, .ref z0), (1, .int (nI (hj)))]) hx hb dX5_plain_25 hl (k := 2) rfl (nI_1 _) (by decide) rfl (fun ls hl => ?_)
        refine lv_goto (tgt := 2) hx hb dX5_plain_28 (by decide) ?_
        exact ih2 (i + 1) (by omega) (by omega) _ _ hW _ (lv_sub hl [1, 2, 0] rfl)
  rw [← apG_0 mk (8 * hj) stA] at hW
  exact loop2 _ 0 (Nat.lt_succ_self _) (by omega) _ _ hW _ (lv_sub hl [1, 2, 0] rfl)

theorem f_X5_useKey_s_0 : Cond.fieldLink RX5 114 "TreeHashesModel" "base" "I" ∈ wsX5_useKey := by decide +kernel
theorem i_X5_useKey_s_X5 : ∀ w ∈ wsX50, w ∈ wsX5_useKey := by decide +kernel
theorem f_X5_useKey_s_2 : Cond.fieldLink RX5 44 "TreeHashesModel" "key" "[I" ∈ wsX5_useKey := by decide +kernel
theorem f_X5_useKey_s_3 : Cond.fieldLink RX5 41 "TreeHashesModel" "start" "[I" ∈ wsX5_useKey := by decide +kernel
set_option maxHeartbeats 4000000 in
set_option maxRecDepth 100000 in
theorem c_X5_useKey_s (l : Launch) (D : va_G) (cy : Nat → ClassId) (t : Nat × Nat) (z0 : Nat) (zr : Nat) (zs : Nat) (zt : Nat) (zc : Nat) (zm : Nat) (zk : Nat) (zh : Nat) (zd : Nat) (zf : Nat) (ml : Nat) (zp : Nat) (mps : Nat) (za : Nat) (ze : Nat) (be : Int32) (zn : Nat) (zb : Nat) (zv : Nat) (zw : Nat) (zo : Nat) (zq : Nat) (nu : Int64) (bq : Int32) (fg : Int32) (zl : Nat) (hg : Nat) (cz : Nat) (zi : Nat) (ke : Nat → Int32)  (sz : Nat) : Met l yX5_useKey wsX5_useKey ({ frames := 0, cells := 0, slots := 0, locals := 0 }) (PcW D cy t [(z0, .inr (5, [.ref zr, .ref zs, .ref zt, .ref zc, .ref zm, .ref zk, .ref zh, .ref zd, .ref zf, .int (nI (ml)), .ref zp, .int (nI (mps)), .ref za, .ref ze, .int (be), .ref zn, .ref zb, .ref zv, .ref zw, .ref zo, .ref zq, .long (nu), .int (bq), .int (fg), .ref zl, .int (nI (hg)), .int (nI (cz)), .ref zi])), (ze, .inl (cy 0, 8, .inl (ke))), (za, .inl (cy 0, 8, .inl (stA)))] [.ref z0, .int ((-1 : Int32))] sz) (QvA D cy (fun u : Unit => True) (fun u : Unit => [(z0, .inr (5, [.ref zr, .ref zs, .ref zt, .ref zc, .ref zm, .ref zk, .ref zh, .ref zd, .ref zf, .int (nI (ml)), .ref zp, .int (nI (mps)), .ref za, .ref ze, .int (nI (0)), .ref zn, .ref zb, .ref zv, .ref zw, .ref zo, .ref zq, .long (nu), .int (bq), .int (fg), .ref zl, .int (nI (hg)), .int (nI (cz)), .ref zi])), (ze, .inl (cy 0, 8, .inl (stA))), (za, .inl (cy 0, 8, .inl (stA)))]) (va_A [(z0, .inr (5, [.ref zr, .ref zs, .ref zt, .ref zc, .ref zm, .ref zk, .ref zh, .ref zd, .ref zf, .int (nI (ml)), .ref zp, .int (nI (mps)), .ref za, .ref ze, .int (be), .ref zn, .ref zb, .ref zv, .ref zw, .ref zo, .ref zq, .long (nu), .int (bq), .int (fg), .ref zl, .int (nI (hg)), .int (nI (cz)), .ref zi])), (ze, .inl (cy 0, 8, .inl (ke))), (za, .inl (cy 0, 8, .inl (stA)))] sz)) 0 0 (va_A [(z0, .inr (5, [.ref zr, .ref zs, .ref zt, .ref zc, .ref zm, .ref zk, .ref zh, .ref zd, .ref zf, .int (nI (ml)), .ref zp, .int (nI (mps)), .ref za, .ref ze, .int (be), .ref zn, .ref zb, .ref zv, .ref zw, .ref zo, .ref zq, .long (nu), .int (bq), .int (fg), .ref zl, .int (nI (hg)), .int (nI (cz)), .ref zi])), (ze, .inl (cy 0, 8, .inl (ke))), (za, .inl (cy 0, 8, .inl (stA)))] sz) := by
  refine M_ofW (cc := cX5_useKey) (maxL := 3) (ret := none) (by decide) rfl (Nat.le_of_ble_eq_true rfl) ?_
  intro p e s m below meth c A ls args Q hQ S0 hr hlocks hnm hK hst hA hW hl
  have hx := S0.1; have hb := S0.2.1; have hml := S0.2.2.1; have hown := S0.2.2.2.1; have hts := S0.2.2.2.2
  have hl : lv_has ls 3 [(0, .ref z0), (1, .int ((-1 : Int32)))] := hl
  refine lv_iconst (v := nI (0)) hx hb dX5_useKey_0 (by decide) ?_
  refine lv_istore_n (lv' := [(2, .int (nI (0))), (0, .ref z0), (1, .int ((-1 : Int32)))]) hx hb dX5_useKey_1 rfl hl (by decide) rfl (fun ls hl => ?_)
  have loop2 : ∀ (nF : Nat) (i : Nat), 8 - i < nF → (i ≤ 8) → ∀ (H : Heap) (locs : List Loc), Wd D A s [(z0, .inr (5, [.ref zr, .ref zs, .ref zt, .ref zc, .ref zm, .ref zk, .ref zh, .ref zd, .ref zf, .int (nI (ml)), .ref zp, .int (nI (mps)), .ref za, .ref ze, .int (be), .ref zn, .ref zb, .ref zv, .ref zw, .ref zo, .ref zq, .long (nu), .int (bq), .int (fg), .ref zl, .int (nI (hg)), .int (nI (cz)), .ref zi])), (ze, .inl (cy 0, 8, .inl (apG ke 0 stA i))), (za, .inl (cy 0, 8, .inl (stA)))] H locs → ∀ ls : Array Slot, lv_has ls 3 [(0, .ref z0), (1, .int ((-1 : Int32))), (2, .int (nI (i)))] → W p l e ({ frames := 0, cells := 0, slots := 0, locals := 0 }) s m args below meth c H locs 0 0 Q (F0 m 2 ls []) := by
    intro nF
    induction nF with
    | zero => intro i hf; exact absurd hf (Nat.not_lt_zero _)
    | succ nF ih2 =>
      intro i hf hi H locs hW ls hl
      refine lv_iload_n hx hb dX5_useKey_2 rfl (lv_at hl 2 rfl) ?_
      refine lv_bipush (v := nI (8)) hx hb dX5_useKey_3 (by decide) ?_
      refine iGe (a := i) (b := 8) (tgt := 44) hx hb dX5_useKey_5 (by decide) (by omega) (by omega) (fun h5 => ?_) (fun h5 => ?_)
      · skip
        refine lv_aload_n hx hb dX5_useKey_44 rfl (lv_at hl 0 rfl) ?_
        refine lv_iload_n hx hb dX5_useKey_45 rfl (lv_at hl 1 rfl) ?_
        refine lv_if_lt (tgt := 58) hx hb dX5_useKey_46 (by decide) (fun h46 => ?_) (fun h46 => ?_)
        · skip
          refine lv_iconst (v := nI (0)) hx hb dX5_useKey_58 (by decide) ?_
          refine lv_goto (tgt := 79) hx hb dX5_useKey_59 (by decide) ?_
          refine va_put (D := D) (ci := 5) (v := .int (nI (0))) (ty := .int) (C := RX5) (T := TX5) (N := 28) hx hb hts i_X5_useKey_s_X5 tyX5 tyX5_ok nmX5 hown hK hW.1 hW.2.1 hW.2.2 0 rfl rfl 14 (by decide) (hts (.fieldLink RX5 114 "TreeHashesModel" "base" "I") f_X5_useKey_s_0) (fun _ h9 => h9) rfl (by decide +kernel) rfl rfl (Nat.le_of_ble_eq_true rfl) dX5_useKey_79 (fun H locs hP hD hS => ?_)
          have hW : Wd D A s [(z0, .inr (5, [.ref zr, .ref zs, .ref zt, .ref zc, .ref zm, .ref zk, .ref zh, .ref zd, .ref zf, .int (nI (ml)), .ref zp, .int (nI (mps)), .ref za, .ref ze, .int (nI (0)), .ref zn, .ref zb, .ref zv, .ref zw, .ref zo, .ref zq, .long (nu), .int (bq), .int (fg), .ref zl, .int (nI (hg)), .int (nI (cz)), .ref zi])), (ze, .inl (cy 0, 8, .inl (apG ke 0 stA i))), (za, .inl (cy 0, 8, .inl (stA)))] H locs := ⟨hP, hD, hS⟩
          have e9 : i = 8 := by omega
          rw [e9] at hW
          have hW := Wd.ext hW 1 rfl stA apG_all
          exact eV hQ hx hb hr hlocks hK hW () (trivial) (rfl) dX5_useKey_82
        · skip
          exact absurd (by decide) h46
      · skip
        refine lv_aload_n hx hb dX5_useKey_8 rfl (lv_at hl 0 rfl) ?_
        refine va_get (D := D) (ci := 5) (v := .ref ze) (C := RX5) (T := TX5) (N := 28) hx hb hts i_X5_useKey_s_X5 hown hK hW.1 0 rfl rfl 13 (by decide) (hts (.fieldLink RX5 44 "TreeHashesModel" "key" "[I") f_X5_useKey_s_2) (fun _ h9 => h9) rfl dX5_useKey_9 ?_
        refine lv_iload_n hx hb dX5_useKey_12 rfl (lv_at hl 2 rfl) ?_
        refine lv_iload_n hx hb dX5_useKey_13 rfl (lv_at hl 1 rfl) ?_
        refine lv_if_ge (tgt := 26) hx hb dX5_useKey_14 (by decide) (fun h14 => ?_) (fun h14 => ?_)
        · skip
          exact absurd h14 (by decide)
        · skip
          refine lv_aload_n hx hb dX5_useKey_17 rfl (lv_at hl 0 rfl) ?_
          refine va_get (D := D) (ci := 5) (v := .ref za) (C := RX5) (T := TX5) (N := 28) hx hb hts i_X5_useKey_s_X5 hown hK hW.1 0 rfl rfl 12 (by decide) (hts (.fieldLink RX5 41 "TreeHashesModel" "start" "[I") f_X5_useKey_s_3) (fun _ h9 => h9) rfl dX5_useKey_18 ?_
          refine lv_iload_n hx hb dX5_useKey_21 rfl (lv_at hl 2 rfl) ?_
          refine rI hx hb hK hW 2 rfl (k := i) (by omega) (by omega) dX5_useKey_22 ?_
          refine lv_goto (tgt := 37) hx hb dX5_useKey_23 (by decide) ?_
          refine wI hx hb hK hW 1 rfl (k := i) (by omega) (by omega) dX5_useKey_37 (fun H locs hW => ?_)
          have hW : Wd D A s [(z0, .inr (5, [.ref zr, .ref zs, .ref zt, .ref zc, .ref zm, .ref zk, .ref zh, .ref zd, .ref zf, .int (nI (ml)), .ref zp, .int (nI (mps)), .ref za, .ref ze, .int (be), .ref zn, .ref zb, .ref zv, .ref zw, .ref zo, .ref zq, .long (nu), .int (bq), .int (fg), .ref zl, .int (nI (hg)), .int (nI (cz)), .ref zi])), (ze, .inl (cy 0, 8, .inl (upd (apG ke 0 stA i) i (stA i)))), (za, .inl (cy 0, 8, .inl (stA)))] H locs := hW
          rw [show (upd (apG ke 0 stA i) i (stA i)) = (apG ke 0 stA (i + 1)) from by rw [← apG_s ke 0 stA i, Nat.zero_add]] at hW
          have hW : Wd D A s [(z0, .inr (5, [.ref zr, .ref zs, .ref zt, .ref zc, .ref zm, .ref zk, .ref zh, .ref zd, .ref zf, .int (nI (ml)), .ref zp, .int (nI (mps)), .ref za, .ref ze, .int (be), .ref zn, .ref zb, .ref zv, .ref zw, .ref zo, .ref zq, .long (nu), .int (bq), .int (fg), .ref zl, .int (nI (hg)), .int (nI (cz)), .ref zi])), (ze, .inl (cy 0, 8, .inl (apG ke 0 stA (i + 1)))), (za, .inl (cy 0, 8, .inl (stA)))] H locs := hW
          refine lv_iinc (v := nI (i + 1)) (lv' := [(2, .int (nI (i + 1))), (0, .ref z0), (1, .int ((-1 : Int32)))]) hx hb dX5_useKey_38 hl (k := 2) rfl (nI_1 _) (by decide) rfl (fun ls hl => ?_)
          refine lv_goto (tgt := 2) hx hb dX5_useKey_41 (by decide) ?_
          exact ih2 (i + 1) (by omega) (by omega) _ _ hW _ (lv_sub hl [1, 2, 0] rfl)
  rw [← apG_0 ke 0 stA] at hW
  exact loop2 _ 0 (Nat.lt_succ_self _) (by omega) _ _ hW _ (lv_sub hl [1, 2, 0] rfl)

theorem f_X5_useKey_0 : Cond.fieldLink RX5 23 "TreeHashesModel" "mode" "[I" ∈ wsX5_useKey := by decide +kernel
theorem i_X5_useKey_X5 : ∀ w ∈ wsX50, w ∈ wsX5_useKey := by decide +kernel
theorem f_X5_useKey_2 : Cond.fieldLink RX5 114 "TreeHashesModel" "base" "I" ∈ wsX5_useKey := by decide +kernel
theorem f_X5_useKey_3 : Cond.fieldLink RX5 44 "TreeHashesModel" "key" "[I" ∈ wsX5_useKey := by decide +kernel
theorem f_X5_useKey_4 : Cond.fieldLink RX5 26 "TreeHashesModel" "keys" "[I" ∈ wsX5_useKey := by decide +kernel
set_option maxHeartbeats 4000000 in
set_option maxRecDepth 100000 in
theorem c_X5_useKey (l : Launch) (D : va_G) (cy : Nat → ClassId) (t : Nat × Nat) (z0 : Nat) (zr : Nat) (zs : Nat) (zt : Nat) (zc : Nat) (zm : Nat) (zk : Nat) (zh : Nat) (zd : Nat) (zf : Nat) (ml : Nat) (zp : Nat) (mps : Nat) (za : Nat) (ze : Nat) (be : Int32) (zn : Nat) (zb : Nat) (zv : Nat) (zw : Nat) (zo : Nat) (zq : Nat) (nu : Int64) (bq : Int32) (fg : Int32) (zl : Nat) (hg : Nat) (cz : Nat) (zi : Nat) (ke : Nat → Int32) (mk : Nat → Int32) (mmd : Nat → Int32) (hj : Nat) (K : Nat → Int32) (hj4 : hj < 4) (hKk : ∀ k, k < 8 → mk (8 * hj + k) = K k) (sz : Nat) : Met l yX5_useKey wsX5_useKey ({ frames := 0, cells := 0, slots := 0, locals := 0 }) (PcW D cy t [(z0, .inr (5, [.ref zr, .ref zs, .ref zt, .ref zc, .ref zm, .ref zk, .ref zh, .ref zd, .ref zf, .int (nI (ml)), .ref zp, .int (nI (mps)), .ref za, .ref ze, .int (be), .ref zn, .ref zb, .ref zv, .ref zw, .ref zo, .ref zq, .long (nu), .int (bq), .int (fg), .ref zl, .int (nI (hg)), .int (nI (cz)), .ref zi])), (ze, .inl (cy 0, 8, .inl (ke))), (zk, .inl (cy 0, 32, .inl (mk))), (zm, .inl (cy 0, 4, .inl (mmd)))] [.ref z0, .int (nI (hj))] sz) (QvA D cy (fun u : Unit => True) (fun u : Unit => [(z0, .inr (5, [.ref zr, .ref zs, .ref zt, .ref zc, .ref zm, .ref zk, .ref zh, .ref zd, .ref zf, .int (nI (ml)), .ref zp, .int (nI (mps)), .ref za, .ref ze, .int (bsO (mmd hj)), .ref zn, .ref zb, .ref zv, .ref zw, .ref zo, .ref zq, .long (nu), .int (bq), .int (fg), .ref zl, .int (nI (hg)), .int (nI (cz)), .ref zi])), (ze, .inl (cy 0, 8, .inl (K))), (zk, .inl (cy 0, 32, .inl (mk))), (zm, .inl (cy 0, 4, .inl (mmd)))]) (va_A [(z0, .inr (5, [.ref zr, .ref zs, .ref zt, .ref zc, .ref zm, .ref zk, .ref zh, .ref zd, .ref zf, .int (nI (ml)), .ref zp, .int (nI (mps)), .ref za, .ref ze, .int (be), .ref zn, .ref zb, .ref zv, .ref zw, .ref zo, .ref zq, .long (nu), .int (bq), .int (fg), .ref zl, .int (nI (hg)), .int (nI (cz)), .ref zi])), (ze, .inl (cy 0, 8, .inl (ke))), (zk, .inl (cy 0, 32, .inl (mk))), (zm, .inl (cy 0, 4, .inl (mmd)))] sz)) 0 0 (va_A [(z0, .inr (5, [.ref zr, .ref zs, .ref zt, .ref zc, .ref zm, .ref zk, .ref zh, .ref zd, .ref zf, .int (nI (ml)), .ref zp, .int (nI (mps)), .ref za, .ref ze, .int (be), .ref zn, .ref zb, .ref zv, .ref zw, .ref zo, .ref zq, .long (nu), .int (bq), .int (fg), .ref zl, .int (nI (hg)), .int (nI (cz)), .ref zi])), (ze, .inl (cy 0, 8, .inl (ke))), (zk, .inl (cy 0, 32, .inl (mk))), (zm, .inl (cy 0, 4, .inl (mmd)))] sz) := by
  refine M_ofW (cc := cX5_useKey) (maxL := 3) (ret := none) (by decide) rfl (Nat.le_of_ble_eq_true rfl) ?_
  intro p e s m below meth c A ls args Q hQ S0 hr hlocks hnm hK hst hA hW hl
  have hx := S0.1; have hb := S0.2.1; have hml := S0.2.2.1; have hown := S0.2.2.2.1; have hts := S0.2.2.2.2
  have hl : lv_has ls 3 [(0, .ref z0), (1, .int (nI (hj)))] := hl
  refine lv_iconst (v := nI (0)) hx hb dX5_useKey_0 (by decide) ?_
  refine lv_istore_n (lv' := [(2, .int (nI (0))), (0, .ref z0), (1, .int (nI (hj)))]) hx hb dX5_useKey_1 rfl hl (by decide) rfl (fun ls hl => ?_)
  have loop2 : ∀ (nF : Nat) (i : Nat), 8 - i < nF → (i ≤ 8) → ∀ (H : Heap) (locs : List Loc), Wd D A s [(z0, .inr (5, [.ref zr, .ref zs, .ref zt, .ref zc, .ref zm, .ref zk, .ref zh, .ref zd, .ref zf, .int (nI (ml)), .ref zp, .int (nI (mps)), .ref za, .ref ze, .int (be), .ref zn, .ref zb, .ref zv, .ref zw, .ref zo, .ref zq, .long (nu), .int (bq), .int (fg), .ref zl, .int (nI (hg)), .int (nI (cz)), .ref zi])), (ze, .inl (cy 0, 8, .inl (apG ke 0 (fun k => mk (8 * hj + k)) i))), (zk, .inl (cy 0, 32, .inl (mk))), (zm, .inl (cy 0, 4, .inl (mmd)))] H locs → ∀ ls : Array Slot, lv_has ls 3 [(0, .ref z0), (1, .int (nI (hj))), (2, .int (nI (i)))] → W p l e ({ frames := 0, cells := 0, slots := 0, locals := 0 }) s m args below meth c H locs 0 0 Q (F0 m 2 ls []) := by
    intro nF
    induction nF with
    | zero => intro i hf; exact absurd hf (Nat.not_lt_zero _)
    | succ nF ih2 =>
      intro i hf hi H locs hW ls hl
      refine lv_iload_n hx hb dX5_useKey_2 rfl (lv_at hl 2 rfl) ?_
      refine lv_bipush (v := nI (8)) hx hb dX5_useKey_3 (by decide) ?_
      refine iGe (a := i) (b := 8) (tgt := 44) hx hb dX5_useKey_5 (by decide) (by omega) (by omega) (fun h5 => ?_) (fun h5 => ?_)
      · skip
        refine lv_aload_n hx hb dX5_useKey_44 rfl (lv_at hl 0 rfl) ?_
        refine lv_iload_n hx hb dX5_useKey_45 rfl (lv_at hl 1 rfl) ?_
        refine zLt (a := hj) (tgt := 58) hx hb dX5_useKey_46 (by decide) (by omega) ?_
        refine lv_aload_n hx hb dX5_useKey_49 rfl (lv_at hl 0 rfl) ?_
        refine va_get (D := D) (ci := 5) (v := .ref zm) (C := RX5) (T := TX5) (N := 28) hx hb hts i_X5_useKey_X5 hown hK hW.1 0 rfl rfl 4 (by decide) (hts (.fieldLink RX5 23 "TreeHashesModel" "mode" "[I") f_X5_useKey_0) (fun _ h9 => h9) rfl dX5_useKey_50 ?_
        refine lv_iload_n hx hb dX5_useKey_53 rfl (lv_at hl 1 rfl) ?_
        refine rI hx hb hK hW 3 rfl (k := hj) (by omega) (by omega) dX5_useKey_54 ?_
        refine lv_if_ne (tgt := 62) hx hb dX5_useKey_55 (by decide) (fun h55 => ?_) (fun h55 => ?_)
        · skip
          refine lv_aload_n hx hb dX5_useKey_62 rfl (lv_at hl 0 rfl) ?_
          refine va_get (D := D) (ci := 5) (v := .ref zm) (C := RX5) (T := TX5) (N := 28) hx hb hts i_X5_useKey_X5 hown hK hW.1 0 rfl rfl 4 (by decide) (hts (.fieldLink RX5 23 "TreeHashesModel" "mode" "[I") f_X5_useKey_0) (fun _ h9 => h9) rfl dX5_useKey_63 ?_
          refine lv_iload_n hx hb dX5_useKey_66 rfl (lv_at hl 1 rfl) ?_
          refine rI hx hb hK hW 3 rfl (k := hj) (by omega) (by omega) dX5_useKey_67 ?_
          refine lv_iconst (v := nI (1)) hx hb dX5_useKey_68 (by decide) ?_
          refine lv_icmp_ne (tgt := 77) hx hb dX5_useKey_69 (by decide) (fun h69 => ?_) (fun h69 => ?_)
          · skip
            refine lv_bipush (v := nI (64)) hx hb dX5_useKey_77 (by decide) ?_
            refine tI (x' := bsO (mmd hj)) (by unfold bsO; rw [if_neg h55, if_neg h69]) ?_
            refine va_put (D := D) (ci := 5) (v := .int (bsO (mmd hj))) (ty := .int) (C := RX5) (T := TX5) (N := 28) hx hb hts i_X5_useKey_X5 tyX5 tyX5_ok nmX5 hown hK hW.1 hW.2.1 hW.2.2 0 rfl rfl 14 (by decide) (hts (.fieldLink RX5 114 "TreeHashesModel" "base" "I") f_X5_useKey_2) (fun _ h9 => h9) rfl (by decide +kernel) rfl rfl (Nat.le_of_ble_eq_true rfl) dX5_useKey_79 (fun H locs hP hD hS => ?_)
            have hW : Wd D A s [(z0, .inr (5, [.ref zr, .ref zs, .ref zt, .ref zc, .ref zm, .ref zk, .ref zh, .ref zd, .ref zf, .int (nI (ml)), .ref zp, .int (nI (mps)), .ref za, .ref ze, .int (bsO (mmd hj)), .ref zn, .ref zb, .ref zv, .ref zw, .ref zo, .ref zq, .long (nu), .int (bq), .int (fg), .ref zl, .int (nI (hg)), .int (nI (cz)), .ref zi])), (ze, .inl (cy 0, 8, .inl (apG ke 0 (fun k => mk (8 * hj + k)) i))), (zk, .inl (cy 0, 32, .inl (mk))), (zm, .inl (cy 0, 4, .inl (mmd)))] H locs := ⟨hP, hD, hS⟩
            have e9 : i = 8 := by omega
            rw [e9] at hW
            have hW := Wd.ext hW 1 rfl K (fun k hk => by rw [apG_all k hk]; exact hKk k hk)
            exact eV hQ hx hb hr hlocks hK hW () (trivial) (rfl) dX5_useKey_82
          · skip
            refine lv_bipush (v := nI (16)) hx hb dX5_useKey_72 (by decide) ?_
            refine tI (x' := bsO (mmd hj)) (by unfold bsO; rw [if_neg h55, if_pos h69]) ?_
            refine lv_goto (tgt := 79) hx hb dX5_useKey_74 (by decide) ?_
            refine va_put (D := D) (ci := 5) (v := .int (bsO (mmd hj))) (ty := .int) (C := RX5) (T := TX5) (N := 28) hx hb hts i_X5_useKey_X5 tyX5 tyX5_ok nmX5 hown hK hW.1 hW.2.1 hW.2.2 0 rfl rfl 14 (by decide) (hts (.fieldLink RX5 114 "TreeHashesModel" "base" "I") f_X5_useKey_2) (fun _ h9 => h9) rfl (by decide +kernel) rfl rfl (Nat.le_of_ble_eq_true rfl) dX5_useKey_79 (fun H locs hP hD hS => ?_)
            have hW : Wd D A s [(z0, .inr (5, [.ref zr, .ref zs, .ref zt, .ref zc, .ref zm, .ref zk, .ref zh, .ref zd, .ref zf, .int (nI (ml)), .ref zp, .int (nI (mps)), .ref za, .ref ze, .int (bsO (mmd hj)), .ref zn, .ref zb, .ref zv, .ref zw, .ref zo, .ref zq, .long (nu), .int (bq), .int (fg), .ref zl, .int (nI (hg)), .int (nI (cz)), .ref zi])), (ze, .inl (cy 0, 8, .inl (apG ke 0 (fun k => mk (8 * hj + k)) i))), (zk, .inl (cy 0, 32, .inl (mk))), (zm, .inl (cy 0, 4, .inl (mmd)))] H locs := ⟨hP, hD, hS⟩
            have e9 : i = 8 := by omega
            rw [e9] at hW
            have hW := Wd.ext hW 1 rfl K (fun k hk => by rw [apG_all k hk]; exact hKk k hk)
            exact eV hQ hx hb hr hlocks hK hW () (trivial) (rfl) dX5_useKey_82
        · skip
          refine lv_iconst (v := nI (0)) hx hb dX5_useKey_58 (by decide) ?_
          refine tI (x' := bsO (mmd hj)) ((if_pos h55).symm) ?_
          refine lv_goto (tgt := 79) hx hb dX5_useKey_59 (by decide) ?_
          refine va_put (D := D) (ci := 5) (v := .int (bsO (mmd hj))) (ty := .int) (C := RX5) (T := TX5) (N := 28) hx hb hts i_X5_useKey_X5 tyX5 tyX5_ok nmX5 hown hK hW.1 hW.2.1 hW.2.2 0 rfl rfl 14 (by decide) (hts (.fieldLink RX5 114 "TreeHashesModel" "base" "I") f_X5_useKey_2) (fun _ h9 => h9) rfl (by decide +kernel) rfl rfl (Nat.le_of_ble_eq_true rfl) dX5_useKey_79 (fun H locs hP hD hS => ?_)
          have hW : Wd D A s [(z0, .inr (5, [.ref zr, .ref zs, .ref zt, .ref zc, .ref zm, .ref zk, .ref zh, .ref zd, .ref zf, .int (nI (ml)), .ref zp, .int (nI (mps)), .ref za, .ref ze, .int (bsO (mmd hj)), .ref zn, .ref zb, .ref zv, .ref zw, .ref zo, .ref zq, .long (nu), .int (bq), .int (fg), .ref zl, .int (nI (hg)), .int (nI (cz)), .ref zi])), (ze, .inl (cy 0, 8, .inl (apG ke 0 (fun k => mk (8 * hj + k)) i))), (zk, .inl (cy 0, 32, .inl (mk))), (zm, .inl (cy 0, 4, .inl (mmd)))] H locs := ⟨hP, hD, hS⟩
          have e9 : i = 8 := by omega
          rw [e9] at hW
          have hW := Wd.ext hW 1 rfl K (fun k hk => by rw [apG_all k hk]; exact hKk k hk)
          exact eV hQ hx hb hr hlocks hK hW () (trivial) (rfl) dX5_useKey_82
      · skip
        refine lv_aload_n hx hb dX5_useKey_8 rfl (lv_at hl 0 rfl) ?_
        refine va_get (D := D) (ci := 5) (v := .ref ze) (C := RX5) (T := TX5) (N := 28) hx hb hts i_X5_useKey_X5 hown hK hW.1 0 rfl rfl 13 (by decide) (hts (.fieldLink RX5 44 "TreeHashesModel" "key" "[I") f_X5_useKey_3) (fun _ h9 => h9) rfl dX5_useKey_9 ?_
        refine lv_iload_n hx hb dX5_useKey_12 rfl (lv_at hl 2 rfl) ?_
        refine lv_iload_n hx hb dX5_useKey_13 rfl (lv_at hl 1 rfl) ?_
        refine zGe (a := hj) (tgt := 26) hx hb dX5_useKey_14 (by decide) (by omega) ?_
        refine lv_aload_n hx hb dX5_useKey_26 rfl (lv_at hl 0 rfl) ?_
        refine va_get (D := D) (ci := 5) (v := .ref zk) (C := RX5) (T := TX5) (N := 28) hx hb hts i_X5_useKey_X5 hown hK hW.1 0 rfl rfl 5 (by decide) (hts (.fieldLink RX5 26 "TreeHashesModel" "keys" "[I") f_X5_useKey_4) (fun _ h9 => h9) rfl dX5_useKey_27 ?_
        refine lv_bipush (v := nI (8)) hx hb dX5_useKey_30 (by decide) ?_
        refine lv_iload_n hx hb dX5_useKey_32 rfl (lv_at hl 1 rfl) ?_
        refine lv_imul hx hb dX5_useKey_33 ?_
        refine tI (pk_mul _ _) ?_
        refine lv_iload_n hx hb dX5_useKey_34 rfl (lv_at hl 2 rfl) ?_
        refine lv_iadd hx hb dX5_useKey_35 ?_
        refine tI (nI_add _ _) ?_
        refine rI hx hb hK hW 2 rfl (k := (8 * hj) + i) (by omega) (by omega) dX5_useKey_36 ?_
        refine wI hx hb hK hW 1 rfl (k := i) (by omega) (by omega) dX5_useKey_37 (fun H locs hW => ?_)
        have hW : Wd D A s [(z0, .inr (5, [.ref zr, .ref zs, .ref zt, .ref zc, .ref zm, .ref zk, .ref zh, .ref zd, .ref zf, .int (nI (ml)), .ref zp, .int (nI (mps)), .ref za, .ref ze, .int (be), .ref zn, .ref zb, .ref zv, .ref zw, .ref zo, .ref zq, .long (nu), .int (bq), .int (fg), .ref zl, .int (nI (hg)), .int (nI (cz)), .ref zi])), (ze, .inl (cy 0, 8, .inl (upd (apG ke 0 (fun k => mk (8 * hj + k)) i) i (mk ((8 * hj) + i))))), (zk, .inl (cy 0, 32, .inl (mk))), (zm, .inl (cy 0, 4, .inl (mmd)))] H locs := hW
        rw [show (upd (apG ke 0 (fun k => mk (8 * hj + k)) i) i (mk ((8 * hj) + i))) = (apG ke 0 (fun k => mk (8 * hj + k)) (i + 1)) from by rw [← apG_s ke 0 (fun k => mk (8 * hj + k)) i, Nat.zero_add]] at hW
        have hW : Wd D A s [(z0, .inr (5, [.ref zr, .ref zs, .ref zt, .ref zc, .ref zm, .ref zk, .ref zh, .ref zd, .ref zf, .int (nI (ml)), .ref zp, .int (nI (mps)), .ref za, .ref ze, .int (be), .ref zn, .ref zb, .ref zv, .ref zw, .ref zo, .ref zq, .long (nu), .int (bq), .int (fg), .ref zl, .int (nI (hg)), .int (nI (cz)), .ref zi])), (ze, .inl (cy 0, 8, .inl (apG ke 0 (fun k => mk (8 * hj + k)) (i + 1)))), (zk, .inl (cy 0, 32, .inl (mk))), (zm, .inl (cy 0, 4, .inl (mmd)))] H locs := hW
        refine lv_iinc (v := nI (i + 1)) (lv' := [(2, .int (nI (i + 1))), (0, .ref z0), (1, .int (nI (hj)))]) hx hb dX5_useKey_38 hl (k := 2) rfl (nI_1 _) (by decide) rfl (fun ls hl => ?_)
        refine lv_goto (tgt := 2) hx hb dX5_useKey_41 (by decide) ?_
        exact ih2 (i + 1) (by omega) (by omega) _ _ hW _ (lv_sub hl [1, 2, 0] rfl)
  rw [← apG_0 ke 0 (fun k => mk (8 * hj + k))] at hW
  exact loop2 _ 0 (Nat.lt_succ_self _) (by omega) _ _ hW _ (lv_sub hl [1, 2, 0] rfl)
